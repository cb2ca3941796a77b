theorem dX10_write_0 : decode cX10_write 0 = .ok (.iload_n 1, 1) := by decide +kernel
theorem dX10_write_1 : decode cX10_write 1 = .ok (.i2l, 1) := by decide +kernel
theorem dX10_write_2 : decode cX10_write 2 = .ok (.lconst 1, 1) := by decide +kernel
theorem dX10_write_3 : decode cX10_write 3 = .ok (.ldc2_w 83, 3) := by decide +kernel
theorem dX10_write_6 : decode cX10_write 6 = .ok (.invokestatic 85, 3) := by decide +kernel
theorem dX10_write_9 : decode cX10_write 9 = .ok (.ifCond .ne 5, 3) := by decide +kernel
theorem dX10_write_12 : decode cX10_write 12 = .ok (.iconst (-1), 1) := by decide +kernel
theorem dX10_write_13 : decode cX10_write 13 = .ok (.ireturn, 1) := by decide +kernel
theorem dX10_write_14 : decode cX10_write 14 = .ok (.aload_n 0, 1) := by decide +kernel
theorem dX10_write_15 : decode cX10_write 15 = .ok (.getfield 89, 3) := by decide +kernel
theorem dX10_write_18 : decode cX10_write 18 = .ok (.iload_n 1, 1) := by decide +kernel
theorem dX10_write_19 : decode cX10_write 19 = .ok (.iadd, 1) := by decide +kernel
theorem dX10_write_20 : decode cX10_write 20 = .ok (.sipush 400, 3) := by decide +kernel
theorem dX10_write_23 : decode cX10_write 23 = .ok (.if_icmp .le 6, 3) := by decide +kernel
theorem dX10_write_26 : decode cX10_write 26 = .ok (.bipush (-3), 2) := by decide +kernel
theorem dX10_write_28 : decode cX10_write 28 = .ok (.ireturn, 1) := by decide +kernel
theorem dX10_write_29 : decode cX10_write 29 = .ok (.iload_n 1, 1) := by decide +kernel
theorem dX10_write_30 : decode cX10_write 30 = .ok (.iconst 1, 1) := by decide +kernel
theorem dX10_write_31 : decode cX10_write 31 = .ok (.isub, 1) := by decide +kernel
theorem dX10_write_32 : decode cX10_write 32 = .ok (.istore 4, 2) := by decide +kernel
theorem dX10_write_34 : decode cX10_write 34 = .ok (.iload 4, 2) := by decide +kernel
theorem dX10_write_36 : decode cX10_write 36 = .ok (.ifCond .lt 40, 3) := by decide +kernel
theorem dX10_write_39 : decode cX10_write 39 = .ok (.aload_n 0, 1) := by decide +kernel
theorem dX10_write_40 : decode cX10_write 40 = .ok (.getfield 7, 3) := by decide +kernel
theorem dX10_write_43 : decode cX10_write 43 = .ok (.aload_n 0, 1) := by decide +kernel
theorem dX10_write_44 : decode cX10_write 44 = .ok (.getfield 89, 3) := by decide +kernel
theorem dX10_write_47 : decode cX10_write 47 = .ok (.lload_n 2, 1) := by decide +kernel
theorem dX10_write_48 : decode cX10_write 48 = .ok (.bipush 8, 2) := by decide +kernel
theorem dX10_write_50 : decode cX10_write 50 = .ok (.iload 4, 2) := by decide +kernel
theorem dX10_write_52 : decode cX10_write 52 = .ok (.imul, 1) := by decide +kernel
theorem dX10_write_53 : decode cX10_write 53 = .ok (.lshr, 1) := by decide +kernel
theorem dX10_write_54 : decode cX10_write 54 = .ok (.ldc2_w 93, 3) := by decide +kernel
theorem dX10_write_57 : decode cX10_write 57 = .ok (.land, 1) := by decide +kernel
theorem dX10_write_58 : decode cX10_write 58 = .ok (.l2i, 1) := by decide +kernel
theorem dX10_write_59 : decode cX10_write 59 = .ok (.iastore, 1) := by decide +kernel
theorem dX10_write_60 : decode cX10_write 60 = .ok (.aload_n 0, 1) := by decide +kernel
theorem dX10_write_61 : decode cX10_write 61 = .ok (.dup, 1) := by decide +kernel
theorem dX10_write_62 : decode cX10_write 62 = .ok (.getfield 89, 3) := by decide +kernel
theorem dX10_write_65 : decode cX10_write 65 = .ok (.iconst 1, 1) := by decide +kernel
theorem dX10_write_66 : decode cX10_write 66 = .ok (.iadd, 1) := by decide +kernel
theorem dX10_write_67 : decode cX10_write 67 = .ok (.putfield 89, 3) := by decide +kernel
theorem dX10_write_70 : decode cX10_write 70 = .ok (.iinc 4 (-1), 3) := by decide +kernel
theorem dX10_write_73 : decode cX10_write 73 = .ok (.goto (-39), 3) := by decide +kernel
theorem dX10_write_76 : decode cX10_write 76 = .ok (.aload_n 0, 1) := by decide +kernel
theorem dX10_write_77 : decode cX10_write 77 = .ok (.getfield 89, 3) := by decide +kernel
theorem dX10_write_80 : decode cX10_write 80 = .ok (.ireturn, 1) := by decide +kernel
theorem dX10_clear_0 : decode cX10_clear 0 = .ok (.aload_n 0, 1) := by decide +kernel
theorem dX10_clear_1 : decode cX10_clear 1 = .ok (.getfield 89, 3) := by decide +kernel
theorem dX10_clear_4 : decode cX10_clear 4 = .ok (.istore_n 1, 1) := by decide +kernel
theorem dX10_clear_5 : decode cX10_clear 5 = .ok (.aload_n 0, 1) := by decide +kernel
theorem dX10_clear_6 : decode cX10_clear 6 = .ok (.iconst 0, 1) := by decide +kernel
theorem dX10_clear_7 : decode cX10_clear 7 = .ok (.putfield 89, 3) := by decide +kernel
theorem dX10_clear_10 : decode cX10_clear 10 = .ok (.iload_n 1, 1) := by decide +kernel
theorem dX10_clear_11 : decode cX10_clear 11 = .ok (.ireturn, 1) := by decide +kernel
theorem dX10_faultOf_0 : decode cX10_faultOf 0 = .ok (.iconst 0, 1) := by decide +kernel
theorem dX10_faultOf_1 : decode cX10_faultOf 1 = .ok (.istore_n 1, 1) := by decide +kernel
theorem dX10_faultOf_2 : decode cX10_faultOf 2 = .ok (.iconst 0, 1) := by decide +kernel
theorem dX10_faultOf_3 : decode cX10_faultOf 3 = .ok (.istore_n 2, 1) := by decide +kernel
theorem dX10_faultOf_4 : decode cX10_faultOf 4 = .ok (.iconst 0, 1) := by decide +kernel
theorem dX10_faultOf_5 : decode cX10_faultOf 5 = .ok (.istore_n 3, 1) := by decide +kernel
theorem dX10_faultOf_6 : decode cX10_faultOf 6 = .ok (.aload_n 0, 1) := by decide +kernel
theorem dX10_faultOf_7 : decode cX10_faultOf 7 = .ok (.iconst 0, 1) := by decide +kernel
theorem dX10_faultOf_8 : decode cX10_faultOf 8 = .ok (.putfield 148, 3) := by decide +kernel
theorem dX10_faultOf_11 : decode cX10_faultOf 11 = .ok (.iload_n 1, 1) := by decide +kernel
theorem dX10_faultOf_12 : decode cX10_faultOf 12 = .ok (.aload_n 0, 1) := by decide +kernel
theorem dX10_faultOf_13 : decode cX10_faultOf 13 = .ok (.getfield 89, 3) := by decide +kernel
theorem dX10_faultOf_16 : decode cX10_faultOf 16 = .ok (.if_icmp .ge 90, 3) := by decide +kernel
theorem dX10_faultOf_106 : decode cX10_faultOf 106 = .ok (.bipush (-4), 2) := by decide +kernel
theorem dX10_faultOf_108 : decode cX10_faultOf 108 = .ok (.ireturn, 1) := by decide +kernel
theorem dX10_fault_0 : decode cX10_fault 0 = .ok (.aload_n 0, 1) := by decide +kernel
theorem dX10_fault_1 : decode cX10_fault 1 = .ok (.invokevirtual 159, 3) := by decide +kernel
theorem dX10_fault_4 : decode cX10_fault 4 = .ok (.ireturn, 1) := by decide +kernel
theorem dX10_build_0 : decode cX10_build 0 = .ok (.aload_n 0, 1) := by decide +kernel
theorem dX10_build_1 : decode cX10_build 1 = .ok (.invokevirtual 159, 3) := by decide +kernel
theorem dX10_build_4 : decode cX10_build 4 = .ok (.bipush (-4), 2) := by decide +kernel
theorem dX10_build_6 : decode cX10_build 6 = .ok (.if_icmp .eq 6, 3) := by decide +kernel
theorem dX10_build_12 : decode cX10_build 12 = .ok (.iconst 0, 1) := by decide +kernel
theorem dX10_build_13 : decode cX10_build 13 = .ok (.istore_n 1, 1) := by decide +kernel
theorem dX10_build_14 : decode cX10_build 14 = .ok (.iconst 0, 1) := by decide +kernel
theorem dX10_build_15 : decode cX10_build 15 = .ok (.istore_n 2, 1) := by decide +kernel
theorem dX10_build_16 : decode cX10_build 16 = .ok (.iload_n 2, 1) := by decide +kernel
theorem dX10_build_17 : decode cX10_build 17 = .ok (.aload_n 0, 1) := by decide +kernel
theorem dX10_build_18 : decode cX10_build 18 = .ok (.getfield 148, 3) := by decide +kernel
theorem dX10_build_21 : decode cX10_build 21 = .ok (.if_icmp .ge 33, 3) := by decide +kernel
theorem dX10_build_54 : decode cX10_build 54 = .ok (.iload_n 1, 1) := by decide +kernel
theorem dX10_build_55 : decode cX10_build 55 = .ok (.ifCond .ne 6, 3) := by decide +kernel
theorem dX10_build_58 : decode cX10_build 58 = .ok (.bipush (-2), 2) := by decide +kernel
theorem dX10_build_60 : decode cX10_build 60 = .ok (.ireturn, 1) := by decide +kernel
theorem dX10_item_0 : decode cX10_item 0 = .ok (.iload_n 1, 1) := by decide +kernel
theorem dX10_item_1 : decode cX10_item 1 = .ok (.i2l, 1) := by decide +kernel
theorem dX10_item_2 : decode cX10_item 2 = .ok (.lconst 0, 1) := by decide +kernel
theorem dX10_item_3 : decode cX10_item 3 = .ok (.ldc2_w 194, 3) := by decide +kernel
theorem dX10_item_6 : decode cX10_item 6 = .ok (.invokestatic 85, 3) := by decide +kernel
theorem dX10_item_9 : decode cX10_item 9 = .ok (.ifCond .eq 15, 3) := by decide +kernel
theorem dX10_item_12 : decode cX10_item 12 = .ok (.iload_n 2, 1) := by decide +kernel
theorem dX10_item_13 : decode cX10_item 13 = .ok (.i2l, 1) := by decide +kernel
theorem dX10_item_14 : decode cX10_item 14 = .ok (.lconst 0, 1) := by decide +kernel
theorem dX10_item_15 : decode cX10_item 15 = .ok (.ldc2_w 196, 3) := by decide +kernel
theorem dX10_item_18 : decode cX10_item 18 = .ok (.invokestatic 85, 3) := by decide +kernel
theorem dX10_item_21 : decode cX10_item 21 = .ok (.ifCond .ne 5, 3) := by decide +kernel
theorem dX10_item_24 : decode cX10_item 24 = .ok (.iconst (-1), 1) := by decide +kernel
theorem dX10_item_25 : decode cX10_item 25 = .ok (.ireturn, 1) := by decide +kernel
theorem dX10_item_26 : decode cX10_item 26 = .ok (.aload_n 0, 1) := by decide +kernel
theorem dX10_item_27 : decode cX10_item 27 = .ok (.getfield 173, 3) := by decide +kernel
theorem dX10_item_30 : decode cX10_item 30 = .ok (.ifCond .eq 11, 3) := by decide +kernel
theorem dX10_item_41 : decode cX10_item 41 = .ok (.bipush (-2), 2) := by decide +kernel
theorem dX10_item_43 : decode cX10_item 43 = .ok (.ireturn, 1) := by decide +kernel
theorem dX10_weather_0 : decode cX10_weather 0 = .ok (.iload_n 1, 1) := by decide +kernel
theorem dX10_weather_1 : decode cX10_weather 1 = .ok (.i2l, 1) := by decide +kernel
theorem dX10_weather_2 : decode cX10_weather 2 = .ok (.lconst 0, 1) := by decide +kernel
theorem dX10_weather_3 : decode cX10_weather 3 = .ok (.lconst 1, 1) := by decide +kernel
theorem dX10_weather_4 : decode cX10_weather 4 = .ok (.invokestatic 85, 3) := by decide +kernel
theorem dX10_weather_7 : decode cX10_weather 7 = .ok (.ifCond .eq 42, 3) := by decide +kernel
theorem dX10_weather_10 : decode cX10_weather 10 = .ok (.iload_n 2, 1) := by decide +kernel
theorem dX10_weather_11 : decode cX10_weather 11 = .ok (.i2l, 1) := by decide +kernel
theorem dX10_weather_12 : decode cX10_weather 12 = .ok (.lconst 0, 1) := by decide +kernel
theorem dX10_weather_13 : decode cX10_weather 13 = .ok (.ldc2_w 198, 3) := by decide +kernel
theorem dX10_weather_16 : decode cX10_weather 16 = .ok (.invokestatic 85, 3) := by decide +kernel
theorem dX10_weather_19 : decode cX10_weather 19 = .ok (.ifCond .eq 30, 3) := by decide +kernel
theorem dX10_weather_22 : decode cX10_weather 22 = .ok (.iload_n 3, 1) := by decide +kernel
theorem dX10_weather_23 : decode cX10_weather 23 = .ok (.i2l, 1) := by decide +kernel
theorem dX10_weather_24 : decode cX10_weather 24 = .ok (.lconst 0, 1) := by decide +kernel
theorem dX10_weather_25 : decode cX10_weather 25 = .ok (.ldc2_w 103, 3) := by decide +kernel
theorem dX10_weather_28 : decode cX10_weather 28 = .ok (.invokestatic 85, 3) := by decide +kernel
theorem dX10_weather_31 : decode cX10_weather 31 = .ok (.ifCond .eq 18, 3) := by decide +kernel
theorem dX10_weather_34 : decode cX10_weather 34 = .ok (.iload 4, 2) := by decide +kernel
theorem dX10_weather_36 : decode cX10_weather 36 = .ok (.i2l, 1) := by decide +kernel
theorem dX10_weather_37 : decode cX10_weather 37 = .ok (.ldc2_w 200, 3) := by decide +kernel
theorem dX10_weather_40 : decode cX10_weather 40 = .ok (.ldc2_w 202, 3) := by decide +kernel
theorem dX10_weather_43 : decode cX10_weather 43 = .ok (.invokestatic 85, 3) := by decide +kernel
theorem dX10_weather_46 : decode cX10_weather 46 = .ok (.ifCond .ne 5, 3) := by decide +kernel
theorem dX10_weather_49 : decode cX10_weather 49 = .ok (.iconst (-1), 1) := by decide +kernel
theorem dX10_weather_50 : decode cX10_weather 50 = .ok (.ireturn, 1) := by decide +kernel
theorem dX10_weather_51 : decode cX10_weather 51 = .ok (.aload_n 0, 1) := by decide +kernel
theorem dX10_weather_52 : decode cX10_weather 52 = .ok (.getfield 25, 3) := by decide +kernel
theorem dX10_weather_55 : decode cX10_weather 55 = .ok (.sipush 192, 3) := by decide +kernel
theorem dX10_weather_58 : decode cX10_weather 58 = .ok (.iload_n 1, 1) := by decide +kernel
theorem dX10_weather_59 : decode cX10_weather 59 = .ok (.imul, 1) := by decide +kernel
theorem dX10_weather_60 : decode cX10_weather 60 = .ok (.iconst 2, 1) := by decide +kernel
theorem dX10_weather_61 : decode cX10_weather 61 = .ok (.iload_n 2, 1) := by decide +kernel
theorem dX10_weather_62 : decode cX10_weather 62 = .ok (.imul, 1) := by decide +kernel
theorem dX10_weather_63 : decode cX10_weather 63 = .ok (.iadd, 1) := by decide +kernel
theorem dX10_weather_64 : decode cX10_weather 64 = .ok (.iload_n 3, 1) := by decide +kernel
theorem dX10_weather_65 : decode cX10_weather 65 = .ok (.iastore, 1) := by decide +kernel
theorem dX10_weather_66 : decode cX10_weather 66 = .ok (.aload_n 0, 1) := by decide +kernel
theorem dX10_weather_67 : decode cX10_weather 67 = .ok (.getfield 25, 3) := by decide +kernel
theorem dX10_weather_70 : decode cX10_weather 70 = .ok (.sipush 192, 3) := by decide +kernel
theorem dX10_weather_73 : decode cX10_weather 73 = .ok (.iload_n 1, 1) := by decide +kernel
theorem dX10_weather_74 : decode cX10_weather 74 = .ok (.imul, 1) := by decide +kernel
theorem dX10_weather_75 : decode cX10_weather 75 = .ok (.iconst 2, 1) := by decide +kernel
theorem dX10_weather_76 : decode cX10_weather 76 = .ok (.iload_n 2, 1) := by decide +kernel
theorem dX10_weather_77 : decode cX10_weather 77 = .ok (.imul, 1) := by decide +kernel
theorem dX10_weather_78 : decode cX10_weather 78 = .ok (.iadd, 1) := by decide +kernel
theorem dX10_weather_79 : decode cX10_weather 79 = .ok (.iconst 1, 1) := by decide +kernel
theorem dX10_weather_80 : decode cX10_weather 80 = .ok (.iadd, 1) := by decide +kernel
theorem dX10_weather_81 : decode cX10_weather 81 = .ok (.iload 4, 2) := by decide +kernel
theorem dX10_weather_83 : decode cX10_weather 83 = .ok (.iastore, 1) := by decide +kernel
theorem dX10_weather_84 : decode cX10_weather 84 = .ok (.iconst 0, 1) := by decide +kernel
theorem dX10_weather_85 : decode cX10_weather 85 = .ok (.ireturn, 1) := by decide +kernel
theorem dX10_anew_0 : decode cX10_anew 0 = .ok (.aload_n 0, 1) := by decide +kernel
theorem dX10_anew_1 : decode cX10_anew 1 = .ok (.getfield 173, 3) := by decide +kernel
theorem dX10_anew_4 : decode cX10_anew 4 = .ok (.ifCond .ne 6, 3) := by decide +kernel
theorem dX10_anew_7 : decode cX10_anew 7 = .ok (.bipush (-2), 2) := by decide +kernel
theorem dX10_anew_9 : decode cX10_anew 9 = .ok (.ireturn, 1) := by decide +kernel
theorem dX10_run_0 : decode cX10_run 0 = .ok (.iload_n 1, 1) := by decide +kernel
theorem dX10_run_1 : decode cX10_run 1 = .ok (.i2l, 1) := by decide +kernel
theorem dX10_run_2 : decode cX10_run 2 = .ok (.lconst 1, 1) := by decide +kernel
theorem dX10_run_3 : decode cX10_run 3 = .ok (.ldc2_w 229, 3) := by decide +kernel
theorem dX10_run_6 : decode cX10_run 6 = .ok (.invokestatic 85, 3) := by decide +kernel
theorem dX10_run_9 : decode cX10_run 9 = .ok (.ifCond .ne 5, 3) := by decide +kernel
theorem dX10_run_12 : decode cX10_run 12 = .ok (.iconst (-1), 1) := by decide +kernel
theorem dX10_run_13 : decode cX10_run 13 = .ok (.ireturn, 1) := by decide +kernel
theorem dX10_run_14 : decode cX10_run 14 = .ok (.aload_n 0, 1) := by decide +kernel
theorem dX10_run_15 : decode cX10_run 15 = .ok (.getfield 173, 3) := by decide +kernel
theorem dX10_run_18 : decode cX10_run 18 = .ok (.ifCond .ne 6, 3) := by decide +kernel
theorem dX10_run_21 : decode cX10_run 21 = .ok (.bipush (-2), 2) := by decide +kernel
theorem dX10_run_23 : decode cX10_run 23 = .ok (.ireturn, 1) := by decide +kernel
theorem dX10_has_0 : decode cX10_has 0 = .ok (.iload_n 1, 1) := by decide +kernel
theorem dX10_has_1 : decode cX10_has 1 = .ok (.i2l, 1) := by decide +kernel
theorem dX10_has_2 : decode cX10_has 2 = .ok (.lconst 0, 1) := by decide +kernel
theorem dX10_has_3 : decode cX10_has 3 = .ok (.ldc2_w 234, 3) := by decide +kernel
theorem dX10_has_6 : decode cX10_has 6 = .ok (.invokestatic 85, 3) := by decide +kernel
theorem dX10_has_9 : decode cX10_has 9 = .ok (.ifCond .eq 13, 3) := by decide +kernel
theorem dX10_has_12 : decode cX10_has 12 = .ok (.iload_n 2, 1) := by decide +kernel
theorem dX10_has_13 : decode cX10_has 13 = .ok (.i2l, 1) := by decide +kernel
theorem dX10_has_14 : decode cX10_has 14 = .ok (.lconst 0, 1) := by decide +kernel
theorem dX10_has_15 : decode cX10_has 15 = .ok (.lconst 1, 1) := by decide +kernel
theorem dX10_has_16 : decode cX10_has 16 = .ok (.invokestatic 85, 3) := by decide +kernel
theorem dX10_has_19 : decode cX10_has 19 = .ok (.ifCond .ne 7, 3) := by decide +kernel
theorem dX10_has_22 : decode cX10_has 22 = .ok (.ldc2_w 236, 3) := by decide +kernel
theorem dX10_has_25 : decode cX10_has 25 = .ok (.lreturn, 1) := by decide +kernel
theorem dX10_has_26 : decode cX10_has 26 = .ok (.aload_n 0, 1) := by decide +kernel
theorem dX10_has_27 : decode cX10_has 27 = .ok (.getfield 173, 3) := by decide +kernel
theorem dX10_has_30 : decode cX10_has 30 = .ok (.ifCond .eq 11, 3) := by decide +kernel
theorem dX10_has_41 : decode cX10_has 41 = .ok (.ldc2_w 238, 3) := by decide +kernel
theorem dX10_has_44 : decode cX10_has 44 = .ok (.lreturn, 1) := by decide +kernel
theorem dX10_flow_0 : decode cX10_flow 0 = .ok (.iload_n 1, 1) := by decide +kernel
theorem dX10_flow_1 : decode cX10_flow 1 = .ok (.i2l, 1) := by decide +kernel
theorem dX10_flow_2 : decode cX10_flow 2 = .ok (.lconst 0, 1) := by decide +kernel
theorem dX10_flow_3 : decode cX10_flow 3 = .ok (.ldc2_w 194, 3) := by decide +kernel
theorem dX10_flow_6 : decode cX10_flow 6 = .ok (.invokestatic 85, 3) := by decide +kernel
theorem dX10_flow_9 : decode cX10_flow 9 = .ok (.ifCond .ne 7, 3) := by decide +kernel
theorem dX10_flow_12 : decode cX10_flow 12 = .ok (.ldc2_w 236, 3) := by decide +kernel
theorem dX10_flow_15 : decode cX10_flow 15 = .ok (.lreturn, 1) := by decide +kernel
theorem dX10_flow_16 : decode cX10_flow 16 = .ok (.aload_n 0, 1) := by decide +kernel
theorem dX10_flow_17 : decode cX10_flow 17 = .ok (.getfield 173, 3) := by decide +kernel
theorem dX10_flow_20 : decode cX10_flow 20 = .ok (.ifCond .eq 24, 3) := by decide +kernel
theorem dX10_flow_44 : decode cX10_flow 44 = .ok (.ldc2_w 238, 3) := by decide +kernel
theorem dX10_flow_47 : decode cX10_flow 47 = .ok (.goto 13, 3) := by decide +kernel
theorem dX10_flow_60 : decode cX10_flow 60 = .ok (.lreturn, 1) := by decide +kernel
theorem dX10_ofKind_0 : decode cX10_ofKind 0 = .ok (.iconst 0, 1) := by decide +kernel
theorem dX10_ofKind_1 : decode cX10_ofKind 1 = .ok (.istore_n 2, 1) := by decide +kernel
theorem dX10_ofKind_2 : decode cX10_ofKind 2 = .ok (.iconst 0, 1) := by decide +kernel
theorem dX10_ofKind_3 : decode cX10_ofKind 3 = .ok (.istore_n 3, 1) := by decide +kernel
theorem dX10_ofKind_4 : decode cX10_ofKind 4 = .ok (.iload_n 3, 1) := by decide +kernel
theorem dX10_ofKind_5 : decode cX10_ofKind 5 = .ok (.aload_n 0, 1) := by decide +kernel
theorem dX10_ofKind_6 : decode cX10_ofKind 6 = .ok (.getfield 163, 3) := by decide +kernel
theorem dX10_ofKind_9 : decode cX10_ofKind 9 = .ok (.if_icmp .ge 34, 3) := by decide +kernel
theorem dX10_ofKind_43 : decode cX10_ofKind 43 = .ok (.iload_n 2, 1) := by decide +kernel
theorem dX10_ofKind_44 : decode cX10_ofKind 44 = .ok (.ireturn, 1) := by decide +kernel
theorem dX10_gate_0 : decode cX10_gate 0 = .ok (.iload_n 1, 1) := by decide +kernel
theorem dX10_gate_1 : decode cX10_gate 1 = .ok (.i2l, 1) := by decide +kernel
theorem dX10_gate_2 : decode cX10_gate 2 = .ok (.lconst 0, 1) := by decide +kernel
theorem dX10_gate_3 : decode cX10_gate 3 = .ok (.ldc2_w 243, 3) := by decide +kernel
theorem dX10_gate_6 : decode cX10_gate 6 = .ok (.invokestatic 85, 3) := by decide +kernel
theorem dX10_gate_9 : decode cX10_gate 9 = .ok (.ifCond .eq 15, 3) := by decide +kernel
theorem dX10_gate_12 : decode cX10_gate 12 = .ok (.iload_n 2, 1) := by decide +kernel
theorem dX10_gate_13 : decode cX10_gate 13 = .ok (.i2l, 1) := by decide +kernel
theorem dX10_gate_14 : decode cX10_gate 14 = .ok (.lconst 0, 1) := by decide +kernel
theorem dX10_gate_15 : decode cX10_gate 15 = .ok (.ldc2_w 219, 3) := by decide +kernel
theorem dX10_gate_18 : decode cX10_gate 18 = .ok (.invokestatic 85, 3) := by decide +kernel
theorem dX10_gate_21 : decode cX10_gate 21 = .ok (.ifCond .ne 5, 3) := by decide +kernel
theorem dX10_gate_24 : decode cX10_gate 24 = .ok (.iconst (-1), 1) := by decide +kernel
theorem dX10_gate_25 : decode cX10_gate 25 = .ok (.ireturn, 1) := by decide +kernel
theorem dX10_gate_26 : decode cX10_gate 26 = .ok (.aload_n 0, 1) := by decide +kernel
theorem dX10_gate_27 : decode cX10_gate 27 = .ok (.getfield 173, 3) := by decide +kernel
theorem dX10_gate_30 : decode cX10_gate 30 = .ok (.ifCond .eq 13, 3) := by decide +kernel
theorem dX10_gate_43 : decode cX10_gate 43 = .ok (.bipush (-2), 2) := by decide +kernel
theorem dX10_gate_45 : decode cX10_gate 45 = .ok (.ireturn, 1) := by decide +kernel
theorem dX10_book_0 : decode cX10_book 0 = .ok (.iload_n 1, 1) := by decide +kernel
theorem dX10_book_1 : decode cX10_book 1 = .ok (.i2l, 1) := by decide +kernel
theorem dX10_book_2 : decode cX10_book 2 = .ok (.lconst 0, 1) := by decide +kernel
theorem dX10_book_3 : decode cX10_book 3 = .ok (.ldc2_w 196, 3) := by decide +kernel
theorem dX10_book_6 : decode cX10_book 6 = .ok (.invokestatic 85, 3) := by decide +kernel
theorem dX10_book_9 : decode cX10_book 9 = .ok (.ifCond .ne 7, 3) := by decide +kernel
theorem dX10_book_12 : decode cX10_book 12 = .ok (.ldc2_w 236, 3) := by decide +kernel
theorem dX10_book_15 : decode cX10_book 15 = .ok (.lreturn, 1) := by decide +kernel
theorem dX10_book_16 : decode cX10_book 16 = .ok (.aload_n 0, 1) := by decide +kernel
theorem dX10_book_17 : decode cX10_book 17 = .ok (.getfield 173, 3) := by decide +kernel
theorem dX10_book_20 : decode cX10_book 20 = .ok (.ifCond .ne 7, 3) := by decide +kernel
theorem dX10_book_23 : decode cX10_book 23 = .ok (.ldc2_w 238, 3) := by decide +kernel
theorem dX10_book_26 : decode cX10_book 26 = .ok (.lreturn, 1) := by decide +kernel
theorem dX10_gauge_0 : decode cX10_gauge 0 = .ok (.iload_n 1, 1) := by decide +kernel
theorem dX10_gauge_1 : decode cX10_gauge 1 = .ok (.i2l, 1) := by decide +kernel
theorem dX10_gauge_2 : decode cX10_gauge 2 = .ok (.lconst 0, 1) := by decide +kernel
theorem dX10_gauge_3 : decode cX10_gauge 3 = .ok (.ldc2_w 243, 3) := by decide +kernel
theorem dX10_gauge_6 : decode cX10_gauge 6 = .ok (.invokestatic 85, 3) := by decide +kernel
theorem dX10_gauge_9 : decode cX10_gauge 9 = .ok (.ifCond .eq 35, 3) := by decide +kernel
theorem dX10_gauge_12 : decode cX10_gauge 12 = .ok (.iload_n 2, 1) := by decide +kernel
theorem dX10_gauge_13 : decode cX10_gauge 13 = .ok (.i2l, 1) := by decide +kernel
theorem dX10_gauge_14 : decode cX10_gauge 14 = .ok (.lconst 0, 1) := by decide +kernel
theorem dX10_gauge_15 : decode cX10_gauge 15 = .ok (.lconst 1, 1) := by decide +kernel
theorem dX10_gauge_16 : decode cX10_gauge 16 = .ok (.invokestatic 85, 3) := by decide +kernel
theorem dX10_gauge_19 : decode cX10_gauge 19 = .ok (.ifCond .eq 25, 3) := by decide +kernel
theorem dX10_gauge_22 : decode cX10_gauge 22 = .ok (.iload_n 3, 1) := by decide +kernel
theorem dX10_gauge_23 : decode cX10_gauge 23 = .ok (.i2l, 1) := by decide +kernel
theorem dX10_gauge_24 : decode cX10_gauge 24 = .ok (.lconst 0, 1) := by decide +kernel
theorem dX10_gauge_25 : decode cX10_gauge 25 = .ok (.iload_n 2, 1) := by decide +kernel
theorem dX10_gauge_26 : decode cX10_gauge 26 = .ok (.ifCond .ne 9, 3) := by decide +kernel
theorem dX10_gauge_29 : decode cX10_gauge 29 = .ok (.ldc2_w 194, 3) := by decide +kernel
theorem dX10_gauge_32 : decode cX10_gauge 32 = .ok (.goto 6, 3) := by decide +kernel
theorem dX10_gauge_35 : decode cX10_gauge 35 = .ok (.ldc2_w 234, 3) := by decide +kernel
theorem dX10_gauge_38 : decode cX10_gauge 38 = .ok (.invokestatic 85, 3) := by decide +kernel
theorem dX10_gauge_41 : decode cX10_gauge 41 = .ok (.ifCond .ne 5, 3) := by decide +kernel
theorem dX10_gauge_44 : decode cX10_gauge 44 = .ok (.iconst (-1), 1) := by decide +kernel
theorem dX10_gauge_45 : decode cX10_gauge 45 = .ok (.ireturn, 1) := by decide +kernel
theorem dX10_gauge_46 : decode cX10_gauge 46 = .ok (.aload_n 0, 1) := by decide +kernel
theorem dX10_gauge_47 : decode cX10_gauge 47 = .ok (.getfield 173, 3) := by decide +kernel
theorem dX10_gauge_50 : decode cX10_gauge 50 = .ok (.ifCond .eq 26, 3) := by decide +kernel
theorem dX10_gauge_76 : decode cX10_gauge 76 = .ok (.bipush (-2), 2) := by decide +kernel
theorem dX10_gauge_78 : decode cX10_gauge 78 = .ok (.ireturn, 1) := by decide +kernel
theorem dX10_isSet_0 : decode cX10_isSet 0 = .ok (.aload_n 0, 1) := by decide +kernel
theorem dX10_isSet_1 : decode cX10_isSet 1 = .ok (.getfield 173, 3) := by decide +kernel
theorem dX10_isSet_4 : decode cX10_isSet 4 = .ok (.ifCond .eq 16, 3) := by decide +kernel
theorem dX10_isSet_20 : decode cX10_isSet 20 = .ok (.iconst 0, 1) := by decide +kernel
theorem dX10_isSet_21 : decode cX10_isSet 21 = .ok (.ireturn, 1) := by decide +kernel
theorem dX10_reads_0 : decode cX10_reads 0 = .ok (.iload_n 1, 1) := by decide +kernel
theorem dX10_reads_1 : decode cX10_reads 1 = .ok (.i2l, 1) := by decide +kernel
theorem dX10_reads_2 : decode cX10_reads 2 = .ok (.lconst 0, 1) := by decide +kernel
theorem dX10_reads_3 : decode cX10_reads 3 = .ok (.ldc2_w 243, 3) := by decide +kernel
theorem dX10_reads_6 : decode cX10_reads 6 = .ok (.invokestatic 85, 3) := by decide +kernel
theorem dX10_reads_9 : decode cX10_reads 9 = .ok (.ifCond .ne 7, 3) := by decide +kernel
theorem dX10_reads_12 : decode cX10_reads 12 = .ok (.ldc2_w 236, 3) := by decide +kernel
theorem dX10_reads_15 : decode cX10_reads 15 = .ok (.lreturn, 1) := by decide +kernel
theorem dX10_reads_16 : decode cX10_reads 16 = .ok (.aload_n 0, 1) := by decide +kernel
theorem dX10_reads_17 : decode cX10_reads 17 = .ok (.iload_n 1, 1) := by decide +kernel
theorem dX10_reads_18 : decode cX10_reads 18 = .ok (.invokevirtual 248, 3) := by decide +kernel
theorem dX10_reads_21 : decode cX10_reads 21 = .ok (.ifCond .eq 16, 3) := by decide +kernel
theorem dX10_reads_37 : decode cX10_reads 37 = .ok (.ldc2_w 238, 3) := by decide +kernel
theorem dX10_reads_40 : decode cX10_reads 40 = .ok (.goto 8, 3) := by decide +kernel
theorem dX10_reads_48 : decode cX10_reads 48 = .ok (.lreturn, 1) := by decide +kernel
theorem dX10_see_0 : decode cX10_see 0 = .ok (.iload_n 1, 1) := by decide +kernel
theorem dX10_see_1 : decode cX10_see 1 = .ok (.i2l, 1) := by decide +kernel
theorem dX10_see_2 : decode cX10_see 2 = .ok (.lconst 0, 1) := by decide +kernel
theorem dX10_see_3 : decode cX10_see 3 = .ok (.ldc2_w 243, 3) := by decide +kernel
theorem dX10_see_6 : decode cX10_see 6 = .ok (.invokestatic 85, 3) := by decide +kernel
theorem dX10_see_9 : decode cX10_see 9 = .ok (.ifCond .eq 29, 3) := by decide +kernel
theorem dX10_see_12 : decode cX10_see 12 = .ok (.iload_n 2, 1) := by decide +kernel
theorem dX10_see_13 : decode cX10_see 13 = .ok (.i2l, 1) := by decide +kernel
theorem dX10_see_14 : decode cX10_see 14 = .ok (.lconst 0, 1) := by decide +kernel
theorem dX10_see_15 : decode cX10_see 15 = .ok (.ldc2_w 198, 3) := by decide +kernel
theorem dX10_see_18 : decode cX10_see 18 = .ok (.invokestatic 85, 3) := by decide +kernel
theorem dX10_see_21 : decode cX10_see 21 = .ok (.ifCond .eq 17, 3) := by decide +kernel
theorem dX10_see_24 : decode cX10_see 24 = .ok (.iload_n 3, 1) := by decide +kernel
theorem dX10_see_25 : decode cX10_see 25 = .ok (.i2l, 1) := by decide +kernel
theorem dX10_see_26 : decode cX10_see 26 = .ok (.ldc2_w 236, 3) := by decide +kernel
theorem dX10_see_29 : decode cX10_see 29 = .ok (.ldc2_w 254, 3) := by decide +kernel
theorem dX10_see_32 : decode cX10_see 32 = .ok (.invokestatic 85, 3) := by decide +kernel
theorem dX10_see_35 : decode cX10_see 35 = .ok (.ifCond .ne 6, 3) := by decide +kernel
theorem dX10_see_38 : decode cX10_see 38 = .ok (.bipush (-100), 2) := by decide +kernel
theorem dX10_see_40 : decode cX10_see 40 = .ok (.ireturn, 1) := by decide +kernel
theorem dX10_see_41 : decode cX10_see 41 = .ok (.aload_n 0, 1) := by decide +kernel
theorem dX10_see_42 : decode cX10_see 42 = .ok (.iload_n 1, 1) := by decide +kernel
theorem dX10_see_43 : decode cX10_see 43 = .ok (.invokevirtual 248, 3) := by decide +kernel
theorem dX10_see_46 : decode cX10_see 46 = .ok (.ifCond .ne 6, 3) := by decide +kernel
theorem dX10_see_49 : decode cX10_see 49 = .ok (.bipush (-102), 2) := by decide +kernel
theorem dX10_see_51 : decode cX10_see 51 = .ok (.ireturn, 1) := by decide +kernel
theorem dX10_ends_0 : decode cX10_ends 0 = .ok (.iload_n 1, 1) := by decide +kernel
theorem dX10_ends_1 : decode cX10_ends 1 = .ok (.i2l, 1) := by decide +kernel
theorem dX10_ends_2 : decode cX10_ends 2 = .ok (.lconst 0, 1) := by decide +kernel
theorem dX10_ends_3 : decode cX10_ends 3 = .ok (.ldc2_w 256, 3) := by decide +kernel
theorem dX10_ends_6 : decode cX10_ends 6 = .ok (.invokestatic 85, 3) := by decide +kernel
theorem dX10_ends_9 : decode cX10_ends 9 = .ok (.ifCond .ne 5, 3) := by decide +kernel
theorem dX10_ends_12 : decode cX10_ends 12 = .ok (.iconst (-1), 1) := by decide +kernel
theorem dX10_ends_13 : decode cX10_ends 13 = .ok (.ireturn, 1) := by decide +kernel
theorem dX10_ends_14 : decode cX10_ends 14 = .ok (.aload_n 0, 1) := by decide +kernel
theorem dX10_ends_15 : decode cX10_ends 15 = .ok (.getfield 258, 3) := by decide +kernel
theorem dX10_ends_18 : decode cX10_ends 18 = .ok (.istore_n 2, 1) := by decide +kernel
theorem dX10_ends_19 : decode cX10_ends 19 = .ok (.aload_n 0, 1) := by decide +kernel
theorem dX10_ends_20 : decode cX10_ends 20 = .ok (.iload_n 1, 1) := by decide +kernel
theorem dX10_ends_21 : decode cX10_ends 21 = .ok (.putfield 258, 3) := by decide +kernel
theorem dX10_ends_24 : decode cX10_ends 24 = .ok (.iload_n 2, 1) := by decide +kernel
theorem dX10_ends_25 : decode cX10_ends 25 = .ok (.ireturn, 1) := by decide +kernel
theorem dX10_knob_0 : decode cX10_knob 0 = .ok (.iload_n 1, 1) := by decide +kernel
theorem dX10_knob_1 : decode cX10_knob 1 = .ok (.i2l, 1) := by decide +kernel
theorem dX10_knob_2 : decode cX10_knob 2 = .ok (.lconst 0, 1) := by decide +kernel
theorem dX10_knob_3 : decode cX10_knob 3 = .ok (.lconst 1, 1) := by decide +kernel
theorem dX10_knob_4 : decode cX10_knob 4 = .ok (.invokestatic 85, 3) := by decide +kernel
theorem dX10_knob_7 : decode cX10_knob 7 = .ok (.ifCond .eq 66, 3) := by decide +kernel
theorem dX10_knob_10 : decode cX10_knob 10 = .ok (.iload_n 2, 1) := by decide +kernel
theorem dX10_knob_11 : decode cX10_knob 11 = .ok (.i2l, 1) := by decide +kernel
theorem dX10_knob_12 : decode cX10_knob 12 = .ok (.lconst 0, 1) := by decide +kernel
theorem dX10_knob_13 : decode cX10_knob 13 = .ok (.ldc2_w 194, 3) := by decide +kernel
theorem dX10_knob_16 : decode cX10_knob 16 = .ok (.invokestatic 85, 3) := by decide +kernel
theorem dX10_knob_19 : decode cX10_knob 19 = .ok (.ifCond .eq 54, 3) := by decide +kernel
theorem dX10_knob_22 : decode cX10_knob 22 = .ok (.iload_n 3, 1) := by decide +kernel
theorem dX10_knob_23 : decode cX10_knob 23 = .ok (.i2l, 1) := by decide +kernel
theorem dX10_knob_24 : decode cX10_knob 24 = .ok (.lconst 0, 1) := by decide +kernel
theorem dX10_knob_25 : decode cX10_knob 25 = .ok (.ldc2_w 261, 3) := by decide +kernel
theorem dX10_knob_28 : decode cX10_knob 28 = .ok (.invokestatic 85, 3) := by decide +kernel
theorem dX10_knob_31 : decode cX10_knob 31 = .ok (.ifCond .eq 42, 3) := by decide +kernel
theorem dX10_knob_34 : decode cX10_knob 34 = .ok (.iload 4, 2) := by decide +kernel
theorem dX10_knob_36 : decode cX10_knob 36 = .ok (.i2l, 1) := by decide +kernel
theorem dX10_knob_37 : decode cX10_knob 37 = .ok (.lconst 0, 1) := by decide +kernel
theorem dX10_knob_38 : decode cX10_knob 38 = .ok (.ldc2_w 99, 3) := by decide +kernel
theorem dX10_knob_41 : decode cX10_knob 41 = .ok (.invokestatic 85, 3) := by decide +kernel
theorem dX10_knob_44 : decode cX10_knob 44 = .ok (.ifCond .eq 29, 3) := by decide +kernel
theorem dX10_knob_47 : decode cX10_knob 47 = .ok (.iload 5, 2) := by decide +kernel
theorem dX10_knob_49 : decode cX10_knob 49 = .ok (.i2l, 1) := by decide +kernel
theorem dX10_knob_50 : decode cX10_knob 50 = .ok (.lconst 1, 1) := by decide +kernel
theorem dX10_knob_51 : decode cX10_knob 51 = .ok (.ldc2_w 99, 3) := by decide +kernel
theorem dX10_knob_54 : decode cX10_knob 54 = .ok (.invokestatic 85, 3) := by decide +kernel
theorem dX10_knob_57 : decode cX10_knob 57 = .ok (.ifCond .eq 16, 3) := by decide +kernel
theorem dX10_knob_60 : decode cX10_knob 60 = .ok (.iload 6, 2) := by decide +kernel
theorem dX10_knob_62 : decode cX10_knob 62 = .ok (.i2l, 1) := by decide +kernel
theorem dX10_knob_63 : decode cX10_knob 63 = .ok (.lconst 0, 1) := by decide +kernel
theorem dX10_knob_64 : decode cX10_knob 64 = .ok (.ldc2_w 263, 3) := by decide +kernel
theorem dX10_knob_67 : decode cX10_knob 67 = .ok (.invokestatic 85, 3) := by decide +kernel
theorem dX10_knob_70 : decode cX10_knob 70 = .ok (.ifCond .ne 5, 3) := by decide +kernel
theorem dX10_knob_73 : decode cX10_knob 73 = .ok (.iconst (-1), 1) := by decide +kernel
theorem dX10_knob_74 : decode cX10_knob 74 = .ok (.ireturn, 1) := by decide +kernel
theorem dX10_knob_75 : decode cX10_knob 75 = .ok (.aload_n 0, 1) := by decide +kernel
theorem dX10_knob_76 : decode cX10_knob 76 = .ok (.getfield 173, 3) := by decide +kernel
theorem dX10_knob_79 : decode cX10_knob 79 = .ok (.ifCond .eq 24, 3) := by decide +kernel
theorem dX10_knob_103 : decode cX10_knob 103 = .ok (.bipush (-2), 2) := by decide +kernel
theorem dX10_knob_105 : decode cX10_knob 105 = .ok (.ireturn, 1) := by decide +kernel
theorem dX10_fits_0 : decode cX10_fits 0 = .ok (.aload_n 0, 1) := by decide +kernel
theorem dX10_fits_1 : decode cX10_fits 1 = .ok (.getfield 173, 3) := by decide +kernel
theorem dX10_fits_4 : decode cX10_fits 4 = .ok (.ifCond .eq 11, 3) := by decide +kernel
theorem dX10_fits_15 : decode cX10_fits 15 = .ok (.bipush (-2), 2) := by decide +kernel
theorem dX10_fits_17 : decode cX10_fits 17 = .ok (.ireturn, 1) := by decide +kernel
theorem dX10_fit_0 : decode cX10_fit 0 = .ok (.iload_n 1, 1) := by decide +kernel
theorem dX10_fit_1 : decode cX10_fit 1 = .ok (.ifCond .lt 13, 3) := by decide +kernel
theorem dX10_fit_4 : decode cX10_fit 4 = .ok (.iload_n 2, 1) := by decide +kernel
theorem dX10_fit_5 : decode cX10_fit 5 = .ok (.i2l, 1) := by decide +kernel
theorem dX10_fit_6 : decode cX10_fit 6 = .ok (.lconst 0, 1) := by decide +kernel
theorem dX10_fit_7 : decode cX10_fit 7 = .ok (.lconst 1, 1) := by decide +kernel
theorem dX10_fit_8 : decode cX10_fit 8 = .ok (.invokestatic 85, 3) := by decide +kernel
theorem dX10_fit_11 : decode cX10_fit 11 = .ok (.ifCond .ne 5, 3) := by decide +kernel
theorem dX10_fit_14 : decode cX10_fit 14 = .ok (.iconst (-1), 1) := by decide +kernel
theorem dX10_fit_15 : decode cX10_fit 15 = .ok (.ireturn, 1) := by decide +kernel
theorem dX10_fit_16 : decode cX10_fit 16 = .ok (.aload_n 0, 1) := by decide +kernel
theorem dX10_fit_17 : decode cX10_fit 17 = .ok (.getfield 173, 3) := by decide +kernel
theorem dX10_fit_20 : decode cX10_fit 20 = .ok (.ifCond .ne 6, 3) := by decide +kernel
theorem dX10_fit_23 : decode cX10_fit 23 = .ok (.bipush (-2), 2) := by decide +kernel
theorem dX10_fit_25 : decode cX10_fit 25 = .ok (.ireturn, 1) := by decide +kernel
theorem dX10_take_0 : decode cX10_take 0 = .ok (.iload_n 1, 1) := by decide +kernel
theorem dX10_take_1 : decode cX10_take 1 = .ok (.ifCond .ge 5, 3) := by decide +kernel
theorem dX10_take_4 : decode cX10_take 4 = .ok (.iconst (-1), 1) := by decide +kernel
theorem dX10_take_5 : decode cX10_take 5 = .ok (.ireturn, 1) := by decide +kernel
theorem dX10_take_6 : decode cX10_take 6 = .ok (.aload_n 0, 1) := by decide +kernel
theorem dX10_take_7 : decode cX10_take 7 = .ok (.getfield 173, 3) := by decide +kernel
theorem dX10_take_10 : decode cX10_take 10 = .ok (.ifCond .ne 6, 3) := by decide +kernel
theorem dX10_take_13 : decode cX10_take 13 = .ok (.bipush (-2), 2) := by decide +kernel
theorem dX10_take_15 : decode cX10_take 15 = .ok (.ireturn, 1) := by decide +kernel
theorem dX10_weigh_0 : decode cX10_weigh 0 = .ok (.iload_n 1, 1) := by decide +kernel
theorem dX10_weigh_1 : decode cX10_weigh 1 = .ok (.i2l, 1) := by decide +kernel
theorem dX10_weigh_2 : decode cX10_weigh 2 = .ok (.lconst 0, 1) := by decide +kernel
theorem dX10_weigh_3 : decode cX10_weigh 3 = .ok (.ldc2_w 243, 3) := by decide +kernel
theorem dX10_weigh_6 : decode cX10_weigh 6 = .ok (.invokestatic 85, 3) := by decide +kernel
theorem dX10_weigh_9 : decode cX10_weigh 9 = .ok (.ifCond .eq 15, 3) := by decide +kernel
theorem dX10_weigh_12 : decode cX10_weigh 12 = .ok (.iload_n 2, 1) := by decide +kernel
theorem dX10_weigh_13 : decode cX10_weigh 13 = .ok (.i2l, 1) := by decide +kernel
theorem dX10_weigh_14 : decode cX10_weigh 14 = .ok (.lconst 0, 1) := by decide +kernel
theorem dX10_weigh_15 : decode cX10_weigh 15 = .ok (.ldc2_w 107, 3) := by decide +kernel
theorem dX10_weigh_18 : decode cX10_weigh 18 = .ok (.invokestatic 85, 3) := by decide +kernel
theorem dX10_weigh_21 : decode cX10_weigh 21 = .ok (.ifCond .ne 5, 3) := by decide +kernel
theorem dX10_weigh_24 : decode cX10_weigh 24 = .ok (.iconst (-1), 1) := by decide +kernel
theorem dX10_weigh_25 : decode cX10_weigh 25 = .ok (.ireturn, 1) := by decide +kernel
theorem dX10_weigh_26 : decode cX10_weigh 26 = .ok (.aload_n 0, 1) := by decide +kernel
theorem dX10_weigh_27 : decode cX10_weigh 27 = .ok (.getfield 62, 3) := by decide +kernel
theorem dX10_weigh_30 : decode cX10_weigh 30 = .ok (.iload_n 1, 1) := by decide +kernel
theorem dX10_weigh_31 : decode cX10_weigh 31 = .ok (.iaload, 1) := by decide +kernel
theorem dX10_weigh_32 : decode cX10_weigh 32 = .ok (.istore_n 3, 1) := by decide +kernel
theorem dX10_weigh_33 : decode cX10_weigh 33 = .ok (.aload_n 0, 1) := by decide +kernel
theorem dX10_weigh_34 : decode cX10_weigh 34 = .ok (.getfield 62, 3) := by decide +kernel
theorem dX10_weigh_37 : decode cX10_weigh 37 = .ok (.iload_n 1, 1) := by decide +kernel
theorem dX10_weigh_38 : decode cX10_weigh 38 = .ok (.iload_n 2, 1) := by decide +kernel
theorem dX10_weigh_39 : decode cX10_weigh 39 = .ok (.iastore, 1) := by decide +kernel
theorem dX10_weigh_40 : decode cX10_weigh 40 = .ok (.iload_n 3, 1) := by decide +kernel
theorem dX10_weigh_41 : decode cX10_weigh 41 = .ok (.ireturn, 1) := by decide +kernel
theorem dX10_rain_0 : decode cX10_rain 0 = .ok (.iload_n 1, 1) := by decide +kernel
theorem dX10_rain_1 : decode cX10_rain 1 = .ok (.i2l, 1) := by decide +kernel
theorem dX10_rain_2 : decode cX10_rain 2 = .ok (.lconst 0, 1) := by decide +kernel
theorem dX10_rain_3 : decode cX10_rain 3 = .ok (.ldc2_w 243, 3) := by decide +kernel
theorem dX10_rain_6 : decode cX10_rain 6 = .ok (.invokestatic 85, 3) := by decide +kernel
theorem dX10_rain_9 : decode cX10_rain 9 = .ok (.ifCond .eq 27, 3) := by decide +kernel
theorem dX10_rain_12 : decode cX10_rain 12 = .ok (.iload_n 2, 1) := by decide +kernel
theorem dX10_rain_13 : decode cX10_rain 13 = .ok (.i2l, 1) := by decide +kernel
theorem dX10_rain_14 : decode cX10_rain 14 = .ok (.lconst 0, 1) := by decide +kernel
theorem dX10_rain_15 : decode cX10_rain 15 = .ok (.ldc2_w 289, 3) := by decide +kernel
theorem dX10_rain_18 : decode cX10_rain 18 = .ok (.invokestatic 85, 3) := by decide +kernel
theorem dX10_rain_21 : decode cX10_rain 21 = .ok (.ifCond .eq 15, 3) := by decide +kernel
theorem dX10_rain_24 : decode cX10_rain 24 = .ok (.iload_n 3, 1) := by decide +kernel
theorem dX10_rain_25 : decode cX10_rain 25 = .ok (.i2l, 1) := by decide +kernel
theorem dX10_rain_26 : decode cX10_rain 26 = .ok (.lconst 0, 1) := by decide +kernel
theorem dX10_rain_27 : decode cX10_rain 27 = .ok (.ldc2_w 103, 3) := by decide +kernel
theorem dX10_rain_30 : decode cX10_rain 30 = .ok (.invokestatic 85, 3) := by decide +kernel
theorem dX10_rain_33 : decode cX10_rain 33 = .ok (.ifCond .ne 5, 3) := by decide +kernel
theorem dX10_rain_36 : decode cX10_rain 36 = .ok (.iconst (-1), 1) := by decide +kernel
theorem dX10_rain_37 : decode cX10_rain 37 = .ok (.ireturn, 1) := by decide +kernel
theorem dX10_rain_38 : decode cX10_rain 38 = .ok (.aload_n 0, 1) := by decide +kernel
theorem dX10_rain_39 : decode cX10_rain 39 = .ok (.getfield 65, 3) := by decide +kernel
theorem dX10_rain_42 : decode cX10_rain 42 = .ok (.bipush 24, 2) := by decide +kernel
theorem dX10_rain_44 : decode cX10_rain 44 = .ok (.iload_n 1, 1) := by decide +kernel
theorem dX10_rain_45 : decode cX10_rain 45 = .ok (.imul, 1) := by decide +kernel
theorem dX10_rain_46 : decode cX10_rain 46 = .ok (.iload_n 2, 1) := by decide +kernel
theorem dX10_rain_47 : decode cX10_rain 47 = .ok (.iadd, 1) := by decide +kernel
theorem dX10_rain_48 : decode cX10_rain 48 = .ok (.iaload, 1) := by decide +kernel
theorem dX10_rain_49 : decode cX10_rain 49 = .ok (.istore 4, 2) := by decide +kernel
theorem dX10_rain_51 : decode cX10_rain 51 = .ok (.aload_n 0, 1) := by decide +kernel
theorem dX10_rain_52 : decode cX10_rain 52 = .ok (.getfield 65, 3) := by decide +kernel
theorem dX10_rain_55 : decode cX10_rain 55 = .ok (.bipush 24, 2) := by decide +kernel
theorem dX10_rain_57 : decode cX10_rain 57 = .ok (.iload_n 1, 1) := by decide +kernel
theorem dX10_rain_58 : decode cX10_rain 58 = .ok (.imul, 1) := by decide +kernel
theorem dX10_rain_59 : decode cX10_rain 59 = .ok (.iload_n 2, 1) := by decide +kernel
theorem dX10_rain_60 : decode cX10_rain 60 = .ok (.iadd, 1) := by decide +kernel
theorem dX10_rain_61 : decode cX10_rain 61 = .ok (.iload_n 3, 1) := by decide +kernel
theorem dX10_rain_62 : decode cX10_rain 62 = .ok (.iastore, 1) := by decide +kernel
theorem dX10_rain_63 : decode cX10_rain 63 = .ok (.iload 4, 2) := by decide +kernel
theorem dX10_rain_65 : decode cX10_rain 65 = .ok (.ireturn, 1) := by decide +kernel
theorem dX10_canSee_0 : decode cX10_canSee 0 = .ok (.aload_n 0, 1) := by decide +kernel
theorem dX10_canSee_1 : decode cX10_canSee 1 = .ok (.iload_n 1, 1) := by decide +kernel
theorem dX10_canSee_2 : decode cX10_canSee 2 = .ok (.invokevirtual 248, 3) := by decide +kernel
theorem dX10_canSee_5 : decode cX10_canSee 5 = .ok (.ifCond .eq 25, 3) := by decide +kernel
theorem dX10_canSee_30 : decode cX10_canSee 30 = .ok (.iconst 0, 1) := by decide +kernel
theorem dX10_canSee_31 : decode cX10_canSee 31 = .ok (.ireturn, 1) := by decide +kernel
theorem dX10_chance_0 : decode cX10_chance 0 = .ok (.iload_n 1, 1) := by decide +kernel
theorem dX10_chance_1 : decode cX10_chance 1 = .ok (.i2l, 1) := by decide +kernel
theorem dX10_chance_2 : decode cX10_chance 2 = .ok (.lconst 0, 1) := by decide +kernel
theorem dX10_chance_3 : decode cX10_chance 3 = .ok (.ldc2_w 243, 3) := by decide +kernel
theorem dX10_chance_6 : decode cX10_chance 6 = .ok (.invokestatic 85, 3) := by decide +kernel
theorem dX10_chance_9 : decode cX10_chance 9 = .ok (.ifCond .eq 15, 3) := by decide +kernel
theorem dX10_chance_12 : decode cX10_chance 12 = .ok (.iload_n 2, 1) := by decide +kernel
theorem dX10_chance_13 : decode cX10_chance 13 = .ok (.i2l, 1) := by decide +kernel
theorem dX10_chance_14 : decode cX10_chance 14 = .ok (.lconst 1, 1) := by decide +kernel
theorem dX10_chance_15 : decode cX10_chance 15 = .ok (.ldc2_w 295, 3) := by decide +kernel
theorem dX10_chance_18 : decode cX10_chance 18 = .ok (.invokestatic 85, 3) := by decide +kernel
theorem dX10_chance_21 : decode cX10_chance 21 = .ok (.ifCond .ne 5, 3) := by decide +kernel
theorem dX10_chance_24 : decode cX10_chance 24 = .ok (.iconst (-1), 1) := by decide +kernel
theorem dX10_chance_25 : decode cX10_chance 25 = .ok (.ireturn, 1) := by decide +kernel
theorem dX10_chance_26 : decode cX10_chance 26 = .ok (.aload_n 0, 1) := by decide +kernel
theorem dX10_chance_27 : decode cX10_chance 27 = .ok (.iload_n 1, 1) := by decide +kernel
theorem dX10_chance_28 : decode cX10_chance 28 = .ok (.iload_n 2, 1) := by decide +kernel
theorem dX10_chance_29 : decode cX10_chance 29 = .ok (.invokevirtual 297, 3) := by decide +kernel
theorem dX10_chance_32 : decode cX10_chance 32 = .ok (.ifCond .eq 13, 3) := by decide +kernel
theorem dX10_chance_45 : decode cX10_chance 45 = .ok (.bipush (-2), 2) := by decide +kernel
theorem dX10_chance_47 : decode cX10_chance 47 = .ok (.ireturn, 1) := by decide +kernel
theorem dX10_warn_0 : decode cX10_warn 0 = .ok (.iload_n 1, 1) := by decide +kernel
theorem dX10_warn_1 : decode cX10_warn 1 = .ok (.i2l, 1) := by decide +kernel
theorem dX10_warn_2 : decode cX10_warn 2 = .ok (.lconst 0, 1) := by decide +kernel
theorem dX10_warn_3 : decode cX10_warn 3 = .ok (.ldc2_w 243, 3) := by decide +kernel
theorem dX10_warn_6 : decode cX10_warn 6 = .ok (.invokestatic 85, 3) := by decide +kernel
theorem dX10_warn_9 : decode cX10_warn 9 = .ok (.ifCond .eq 28, 3) := by decide +kernel
theorem dX10_warn_12 : decode cX10_warn 12 = .ok (.iload_n 2, 1) := by decide +kernel
theorem dX10_warn_13 : decode cX10_warn 13 = .ok (.i2l, 1) := by decide +kernel
theorem dX10_warn_14 : decode cX10_warn 14 = .ok (.lconst 1, 1) := by decide +kernel
theorem dX10_warn_15 : decode cX10_warn 15 = .ok (.ldc2_w 295, 3) := by decide +kernel
theorem dX10_warn_18 : decode cX10_warn 18 = .ok (.invokestatic 85, 3) := by decide +kernel
theorem dX10_warn_21 : decode cX10_warn 21 = .ok (.ifCond .eq 16, 3) := by decide +kernel
theorem dX10_warn_24 : decode cX10_warn 24 = .ok (.iload 5, 2) := by decide +kernel
theorem dX10_warn_26 : decode cX10_warn 26 = .ok (.i2l, 1) := by decide +kernel
theorem dX10_warn_27 : decode cX10_warn 27 = .ok (.lconst 0, 1) := by decide +kernel
theorem dX10_warn_28 : decode cX10_warn 28 = .ok (.ldc2_w 107, 3) := by decide +kernel
theorem dX10_warn_31 : decode cX10_warn 31 = .ok (.invokestatic 85, 3) := by decide +kernel
theorem dX10_warn_34 : decode cX10_warn 34 = .ok (.ifCond .ne 5, 3) := by decide +kernel
theorem dX10_warn_37 : decode cX10_warn 37 = .ok (.iconst (-1), 1) := by decide +kernel
theorem dX10_warn_38 : decode cX10_warn 38 = .ok (.ireturn, 1) := by decide +kernel
theorem dX10_warn_39 : decode cX10_warn 39 = .ok (.aload_n 0, 1) := by decide +kernel
theorem dX10_warn_40 : decode cX10_warn 40 = .ok (.iload_n 1, 1) := by decide +kernel
theorem dX10_warn_41 : decode cX10_warn 41 = .ok (.iload_n 2, 1) := by decide +kernel
theorem dX10_warn_42 : decode cX10_warn 42 = .ok (.invokevirtual 297, 3) := by decide +kernel
theorem dX10_warn_45 : decode cX10_warn 45 = .ok (.ifCond .ne 6, 3) := by decide +kernel
theorem dX10_warn_48 : decode cX10_warn 48 = .ok (.bipush (-2), 2) := by decide +kernel
theorem dX10_warn_50 : decode cX10_warn 50 = .ok (.ireturn, 1) := by decide +kernel
theorem dX10_booked_0 : decode cX10_booked 0 = .ok (.iload_n 1, 1) := by decide +kernel
theorem dX10_booked_1 : decode cX10_booked 1 = .ok (.i2l, 1) := by decide +kernel
theorem dX10_booked_2 : decode cX10_booked 2 = .ok (.lconst 0, 1) := by decide +kernel
theorem dX10_booked_3 : decode cX10_booked 3 = .ok (.ldc2_w 243, 3) := by decide +kernel
theorem dX10_booked_6 : decode cX10_booked 6 = .ok (.invokestatic 85, 3) := by decide +kernel
theorem dX10_booked_9 : decode cX10_booked 9 = .ok (.ifCond .eq 12, 3) := by decide +kernel
theorem dX10_booked_12 : decode cX10_booked 12 = .ok (.aload_n 0, 1) := by decide +kernel
theorem dX10_booked_13 : decode cX10_booked 13 = .ok (.getfield 68, 3) := by decide +kernel
theorem dX10_booked_16 : decode cX10_booked 16 = .ok (.iload_n 1, 1) := by decide +kernel
theorem dX10_booked_17 : decode cX10_booked 17 = .ok (.iaload, 1) := by decide +kernel
theorem dX10_booked_18 : decode cX10_booked 18 = .ok (.goto 4, 3) := by decide +kernel
theorem dX10_booked_21 : decode cX10_booked 21 = .ok (.iconst (-1), 1) := by decide +kernel
theorem dX10_booked_22 : decode cX10_booked 22 = .ok (.ireturn, 1) := by decide +kernel
theorem dX10_peak_0 : decode cX10_peak 0 = .ok (.iload_n 1, 1) := by decide +kernel
theorem dX10_peak_1 : decode cX10_peak 1 = .ok (.i2l, 1) := by decide +kernel
theorem dX10_peak_2 : decode cX10_peak 2 = .ok (.lconst 0, 1) := by decide +kernel
theorem dX10_peak_3 : decode cX10_peak 3 = .ok (.ldc2_w 243, 3) := by decide +kernel
theorem dX10_peak_6 : decode cX10_peak 6 = .ok (.invokestatic 85, 3) := by decide +kernel
theorem dX10_peak_9 : decode cX10_peak 9 = .ok (.ifCond .eq 29, 3) := by decide +kernel
theorem dX10_peak_12 : decode cX10_peak 12 = .ok (.iload_n 2, 1) := by decide +kernel
theorem dX10_peak_13 : decode cX10_peak 13 = .ok (.i2l, 1) := by decide +kernel
theorem dX10_peak_14 : decode cX10_peak 14 = .ok (.lconst 1, 1) := by decide +kernel
theorem dX10_peak_15 : decode cX10_peak 15 = .ok (.ldc2_w 295, 3) := by decide +kernel
theorem dX10_peak_18 : decode cX10_peak 18 = .ok (.invokestatic 85, 3) := by decide +kernel
theorem dX10_peak_21 : decode cX10_peak 21 = .ok (.ifCond .eq 17, 3) := by decide +kernel
theorem dX10_peak_24 : decode cX10_peak 24 = .ok (.iload_n 3, 1) := by decide +kernel
theorem dX10_peak_25 : decode cX10_peak 25 = .ok (.i2l, 1) := by decide +kernel
theorem dX10_peak_26 : decode cX10_peak 26 = .ok (.ldc2_w 236, 3) := by decide +kernel
theorem dX10_peak_29 : decode cX10_peak 29 = .ok (.ldc2_w 243, 3) := by decide +kernel
theorem dX10_peak_32 : decode cX10_peak 32 = .ok (.invokestatic 85, 3) := by decide +kernel
theorem dX10_peak_35 : decode cX10_peak 35 = .ok (.ifCond .ne 7, 3) := by decide +kernel
theorem dX10_peak_38 : decode cX10_peak 38 = .ok (.ldc2_w 236, 3) := by decide +kernel
theorem dX10_peak_41 : decode cX10_peak 41 = .ok (.lreturn, 1) := by decide +kernel
theorem dX10_peak_42 : decode cX10_peak 42 = .ok (.aload_n 0, 1) := by decide +kernel
theorem dX10_peak_43 : decode cX10_peak 43 = .ok (.iload_n 1, 1) := by decide +kernel
theorem dX10_peak_44 : decode cX10_peak 44 = .ok (.iload_n 2, 1) := by decide +kernel
theorem dX10_peak_45 : decode cX10_peak 45 = .ok (.invokevirtual 297, 3) := by decide +kernel
theorem dX10_peak_48 : decode cX10_peak 48 = .ok (.ifCond .eq 13, 3) := by decide +kernel
theorem dX10_peak_61 : decode cX10_peak 61 = .ok (.ldc2_w 238, 3) := by decide +kernel
theorem dX10_peak_64 : decode cX10_peak 64 = .ok (.lreturn, 1) := by decide +kernel
theorem dX10_best_0 : decode cX10_best 0 = .ok (.iload_n 1, 1) := by decide +kernel
theorem dX10_best_1 : decode cX10_best 1 = .ok (.i2l, 1) := by decide +kernel
theorem dX10_best_2 : decode cX10_best 2 = .ok (.lconst 0, 1) := by decide +kernel
theorem dX10_best_3 : decode cX10_best 3 = .ok (.ldc2_w 243, 3) := by decide +kernel
theorem dX10_best_6 : decode cX10_best 6 = .ok (.invokestatic 85, 3) := by decide +kernel
theorem dX10_best_9 : decode cX10_best 9 = .ok (.ifCond .eq 55, 3) := by decide +kernel
theorem dX10_best_12 : decode cX10_best 12 = .ok (.iload_n 2, 1) := by decide +kernel
theorem dX10_best_13 : decode cX10_best 13 = .ok (.i2l, 1) := by decide +kernel
theorem dX10_best_14 : decode cX10_best 14 = .ok (.lconst 1, 1) := by decide +kernel
theorem dX10_best_15 : decode cX10_best 15 = .ok (.ldc2_w 305, 3) := by decide +kernel
theorem dX10_best_18 : decode cX10_best 18 = .ok (.invokestatic 85, 3) := by decide +kernel
theorem dX10_best_21 : decode cX10_best 21 = .ok (.ifCond .eq 43, 3) := by decide +kernel
theorem dX10_best_24 : decode cX10_best 24 = .ok (.iload_n 3, 1) := by decide +kernel
theorem dX10_best_25 : decode cX10_best 25 = .ok (.i2l, 1) := by decide +kernel
theorem dX10_best_26 : decode cX10_best 26 = .ok (.lconst 0, 1) := by decide +kernel
theorem dX10_best_27 : decode cX10_best 27 = .ok (.ldc2_w 243, 3) := by decide +kernel
theorem dX10_best_30 : decode cX10_best 30 = .ok (.invokestatic 85, 3) := by decide +kernel
theorem dX10_best_33 : decode cX10_best 33 = .ok (.ifCond .eq 31, 3) := by decide +kernel
theorem dX10_best_36 : decode cX10_best 36 = .ok (.iload 4, 2) := by decide +kernel
theorem dX10_best_38 : decode cX10_best 38 = .ok (.i2l, 1) := by decide +kernel
theorem dX10_best_39 : decode cX10_best 39 = .ok (.lconst 0, 1) := by decide +kernel
theorem dX10_best_40 : decode cX10_best 40 = .ok (.ldc2_w 234, 3) := by decide +kernel
theorem dX10_best_43 : decode cX10_best 43 = .ok (.invokestatic 85, 3) := by decide +kernel
theorem dX10_best_46 : decode cX10_best 46 = .ok (.ifCond .eq 18, 3) := by decide +kernel
theorem dX10_best_49 : decode cX10_best 49 = .ok (.iload 7, 2) := by decide +kernel
theorem dX10_best_51 : decode cX10_best 51 = .ok (.i2l, 1) := by decide +kernel
theorem dX10_best_52 : decode cX10_best 52 = .ok (.ldc2_w 236, 3) := by decide +kernel
theorem dX10_best_55 : decode cX10_best 55 = .ok (.ldc2_w 243, 3) := by decide +kernel
theorem dX10_best_58 : decode cX10_best 58 = .ok (.invokestatic 85, 3) := by decide +kernel
theorem dX10_best_61 : decode cX10_best 61 = .ok (.ifCond .ne 7, 3) := by decide +kernel
theorem dX10_best_64 : decode cX10_best 64 = .ok (.ldc2_w 236, 3) := by decide +kernel
theorem dX10_best_67 : decode cX10_best 67 = .ok (.lreturn, 1) := by decide +kernel
theorem dX10_best_68 : decode cX10_best 68 = .ok (.aload_n 0, 1) := by decide +kernel
theorem dX10_best_69 : decode cX10_best 69 = .ok (.iload_n 3, 1) := by decide +kernel
theorem dX10_best_70 : decode cX10_best 70 = .ok (.iconst 4, 1) := by decide +kernel
theorem dX10_best_71 : decode cX10_best 71 = .ok (.iload_n 2, 1) := by decide +kernel
theorem dX10_best_72 : decode cX10_best 72 = .ok (.imul, 1) := by decide +kernel
theorem dX10_best_73 : decode cX10_best 73 = .ok (.invokevirtual 297, 3) := by decide +kernel
theorem dX10_best_76 : decode cX10_best 76 = .ok (.ifCond .eq 22, 3) := by decide +kernel
theorem dX10_best_98 : decode cX10_best 98 = .ok (.ldc2_w 238, 3) := by decide +kernel
theorem dX10_best_101 : decode cX10_best 101 = .ok (.lreturn, 1) := by decide +kernel
theorem dX10_swap_0 : decode cX10_swap 0 = .ok (.iload_n 1, 1) := by decide +kernel
theorem dX10_swap_1 : decode cX10_swap 1 = .ok (.i2l, 1) := by decide +kernel
theorem dX10_swap_2 : decode cX10_swap 2 = .ok (.lconst 0, 1) := by decide +kernel
theorem dX10_swap_3 : decode cX10_swap 3 = .ok (.ldc2_w 194, 3) := by decide +kernel
theorem dX10_swap_6 : decode cX10_swap 6 = .ok (.invokestatic 85, 3) := by decide +kernel
theorem dX10_swap_9 : decode cX10_swap 9 = .ok (.ifCond .ne 5, 3) := by decide +kernel
theorem dX10_swap_12 : decode cX10_swap 12 = .ok (.iconst (-1), 1) := by decide +kernel
theorem dX10_swap_13 : decode cX10_swap 13 = .ok (.ireturn, 1) := by decide +kernel
theorem dX10_swap_14 : decode cX10_swap 14 = .ok (.aload_n 0, 1) := by decide +kernel
theorem dX10_swap_15 : decode cX10_swap 15 = .ok (.getfield 173, 3) := by decide +kernel
theorem dX10_swap_18 : decode cX10_swap 18 = .ok (.ifCond .eq 11, 3) := by decide +kernel
theorem dX10_swap_29 : decode cX10_swap 29 = .ok (.bipush (-2), 2) := by decide +kernel
theorem dX10_swap_31 : decode cX10_swap 31 = .ok (.ireturn, 1) := by decide +kernel
theorem dX10_swapped_0 : decode cX10_swapped 0 = .ok (.iload_n 1, 1) := by decide +kernel
theorem dX10_swapped_1 : decode cX10_swapped 1 = .ok (.i2l, 1) := by decide +kernel
theorem dX10_swapped_2 : decode cX10_swapped 2 = .ok (.lconst 0, 1) := by decide +kernel
theorem dX10_swapped_3 : decode cX10_swapped 3 = .ok (.ldc2_w 243, 3) := by decide +kernel
theorem dX10_swapped_6 : decode cX10_swapped 6 = .ok (.invokestatic 85, 3) := by decide +kernel
theorem dX10_swapped_9 : decode cX10_swapped 9 = .ok (.ifCond .eq 25, 3) := by decide +kernel
theorem dX10_swapped_12 : decode cX10_swapped 12 = .ok (.iload_n 2, 1) := by decide +kernel
theorem dX10_swapped_13 : decode cX10_swapped 13 = .ok (.i2l, 1) := by decide +kernel
theorem dX10_swapped_14 : decode cX10_swapped 14 = .ok (.lconst 1, 1) := by decide +kernel
theorem dX10_swapped_15 : decode cX10_swapped 15 = .ok (.ldc2_w 229, 3) := by decide +kernel
theorem dX10_swapped_18 : decode cX10_swapped 18 = .ok (.invokestatic 85, 3) := by decide +kernel
theorem dX10_swapped_21 : decode cX10_swapped 21 = .ok (.ifCond .eq 13, 3) := by decide +kernel
theorem dX10_swapped_24 : decode cX10_swapped 24 = .ok (.iload_n 3, 1) := by decide +kernel
theorem dX10_swapped_25 : decode cX10_swapped 25 = .ok (.i2l, 1) := by decide +kernel
theorem dX10_swapped_26 : decode cX10_swapped 26 = .ok (.lconst 0, 1) := by decide +kernel
theorem dX10_swapped_27 : decode cX10_swapped 27 = .ok (.lconst 1, 1) := by decide +kernel
theorem dX10_swapped_28 : decode cX10_swapped 28 = .ok (.invokestatic 85, 3) := by decide +kernel
theorem dX10_swapped_31 : decode cX10_swapped 31 = .ok (.ifCond .ne 7, 3) := by decide +kernel
theorem dX10_swapped_34 : decode cX10_swapped 34 = .ok (.ldc2_w 236, 3) := by decide +kernel
theorem dX10_swapped_37 : decode cX10_swapped 37 = .ok (.lreturn, 1) := by decide +kernel
theorem dX10_swapped_38 : decode cX10_swapped 38 = .ok (.aload_n 0, 1) := by decide +kernel
theorem dX10_swapped_39 : decode cX10_swapped 39 = .ok (.iload_n 1, 1) := by decide +kernel
theorem dX10_swapped_40 : decode cX10_swapped 40 = .ok (.invokevirtual 248, 3) := by decide +kernel
theorem dX10_swapped_43 : decode cX10_swapped 43 = .ok (.ifCond .eq 10, 3) := by decide +kernel
theorem dX10_swapped_53 : decode cX10_swapped 53 = .ok (.ldc2_w 238, 3) := by decide +kernel
theorem dX10_swapped_56 : decode cX10_swapped 56 = .ok (.lreturn, 1) := by decide +kernel
theorem dX10_laySwap_0 : decode cX10_laySwap 0 = .ok (.aload_n 0, 1) := by decide +kernel
theorem dX10_laySwap_1 : decode cX10_laySwap 1 = .ok (.getfield 173, 3) := by decide +kernel
theorem dX10_laySwap_4 : decode cX10_laySwap 4 = .ok (.ifCond .eq 10, 3) := by decide +kernel
theorem dX10_laySwap_14 : decode cX10_laySwap 14 = .ok (.bipush (-2), 2) := by decide +kernel
theorem dX10_laySwap_16 : decode cX10_laySwap 16 = .ok (.ireturn, 1) := by decide +kernel
theorem dX10_startB_0 : decode cX10_startB 0 = .ok (.iload_n 1, 1) := by decide +kernel
theorem dX10_startB_1 : decode cX10_startB 1 = .ok (.i2l, 1) := by decide +kernel
theorem dX10_startB_2 : decode cX10_startB 2 = .ok (.lconst 0, 1) := by decide +kernel
theorem dX10_startB_3 : decode cX10_startB 3 = .ok (.ldc2_w 234, 3) := by decide +kernel
theorem dX10_startB_6 : decode cX10_startB 6 = .ok (.invokestatic 85, 3) := by decide +kernel
theorem dX10_startB_9 : decode cX10_startB 9 = .ok (.ifCond .eq 15, 3) := by decide +kernel
theorem dX10_startB_12 : decode cX10_startB 12 = .ok (.iload_n 2, 1) := by decide +kernel
theorem dX10_startB_13 : decode cX10_startB 13 = .ok (.i2l, 1) := by decide +kernel
theorem dX10_startB_14 : decode cX10_startB 14 = .ok (.lconst 0, 1) := by decide +kernel
theorem dX10_startB_15 : decode cX10_startB 15 = .ok (.ldc2_w 99, 3) := by decide +kernel
theorem dX10_startB_18 : decode cX10_startB 18 = .ok (.invokestatic 85, 3) := by decide +kernel
theorem dX10_startB_21 : decode cX10_startB 21 = .ok (.ifCond .ne 5, 3) := by decide +kernel
theorem dX10_startB_24 : decode cX10_startB 24 = .ok (.iconst (-1), 1) := by decide +kernel
theorem dX10_startB_25 : decode cX10_startB 25 = .ok (.ireturn, 1) := by decide +kernel
theorem dX10_startB_26 : decode cX10_startB 26 = .ok (.aload_n 0, 1) := by decide +kernel
theorem dX10_startB_27 : decode cX10_startB 27 = .ok (.getfield 173, 3) := by decide +kernel
theorem dX10_startB_30 : decode cX10_startB 30 = .ok (.ifCond .eq 11, 3) := by decide +kernel
theorem dX10_startB_41 : decode cX10_startB 41 = .ok (.bipush (-2), 2) := by decide +kernel
theorem dX10_startB_43 : decode cX10_startB 43 = .ok (.ireturn, 1) := by decide +kernel
theorem dX10_blame_0 : decode cX10_blame 0 = .ok (.iload_n 1, 1) := by decide +kernel
theorem dX10_blame_1 : decode cX10_blame 1 = .ok (.i2l, 1) := by decide +kernel
theorem dX10_blame_2 : decode cX10_blame 2 = .ok (.lconst 0, 1) := by decide +kernel
theorem dX10_blame_3 : decode cX10_blame 3 = .ok (.ldc2_w 243, 3) := by decide +kernel
theorem dX10_blame_6 : decode cX10_blame 6 = .ok (.invokestatic 85, 3) := by decide +kernel
theorem dX10_blame_9 : decode cX10_blame 9 = .ok (.ifCond .eq 27, 3) := by decide +kernel
theorem dX10_blame_12 : decode cX10_blame 12 = .ok (.iload_n 2, 1) := by decide +kernel
theorem dX10_blame_13 : decode cX10_blame 13 = .ok (.i2l, 1) := by decide +kernel
theorem dX10_blame_14 : decode cX10_blame 14 = .ok (.lconst 0, 1) := by decide +kernel
theorem dX10_blame_15 : decode cX10_blame 15 = .ok (.ldc2_w 198, 3) := by decide +kernel
theorem dX10_blame_18 : decode cX10_blame 18 = .ok (.invokestatic 85, 3) := by decide +kernel
theorem dX10_blame_21 : decode cX10_blame 21 = .ok (.ifCond .eq 15, 3) := by decide +kernel
theorem dX10_blame_24 : decode cX10_blame 24 = .ok (.iload_n 3, 1) := by decide +kernel
theorem dX10_blame_25 : decode cX10_blame 25 = .ok (.i2l, 1) := by decide +kernel
theorem dX10_blame_26 : decode cX10_blame 26 = .ok (.lconst 0, 1) := by decide +kernel
theorem dX10_blame_27 : decode cX10_blame 27 = .ok (.ldc2_w 243, 3) := by decide +kernel
theorem dX10_blame_30 : decode cX10_blame 30 = .ok (.invokestatic 85, 3) := by decide +kernel
theorem dX10_blame_33 : decode cX10_blame 33 = .ok (.ifCond .ne 7, 3) := by decide +kernel
theorem dX10_blame_36 : decode cX10_blame 36 = .ok (.ldc2_w 313, 3) := by decide +kernel
theorem dX10_blame_39 : decode cX10_blame 39 = .ok (.lreturn, 1) := by decide +kernel
theorem dX10_blame_40 : decode cX10_blame 40 = .ok (.aload_n 0, 1) := by decide +kernel
theorem dX10_blame_41 : decode cX10_blame 41 = .ok (.iload_n 1, 1) := by decide +kernel
theorem dX10_blame_42 : decode cX10_blame 42 = .ok (.invokevirtual 248, 3) := by decide +kernel
theorem dX10_blame_45 : decode cX10_blame 45 = .ok (.ifCond .ne 7, 3) := by decide +kernel
theorem dX10_blame_48 : decode cX10_blame 48 = .ok (.ldc2_w 315, 3) := by decide +kernel
theorem dX10_blame_51 : decode cX10_blame 51 = .ok (.lreturn, 1) := by decide +kernel
theorem dX10_keep_0 : decode cX10_keep 0 = .ok (.aload_n 0, 1) := by decide +kernel
theorem dX10_keep_1 : decode cX10_keep 1 = .ok (.getfield 173, 3) := by decide +kernel
theorem dX10_keep_4 : decode cX10_keep 4 = .ok (.ifCond .ne 6, 3) := by decide +kernel
theorem dX10_keep_7 : decode cX10_keep 7 = .ok (.bipush (-2), 2) := by decide +kernel
theorem dX10_keep_9 : decode cX10_keep 9 = .ok (.ireturn, 1) := by decide +kernel
theorem dX10_back_0 : decode cX10_back 0 = .ok (.aload_n 0, 1) := by decide +kernel
theorem dX10_back_1 : decode cX10_back 1 = .ok (.getfield 180, 3) := by decide +kernel
theorem dX10_back_4 : decode cX10_back 4 = .ok (.ifCond .ne 6, 3) := by decide +kernel
theorem dX10_back_7 : decode cX10_back 7 = .ok (.bipush (-2), 2) := by decide +kernel
theorem dX10_back_9 : decode cX10_back 9 = .ok (.ireturn, 1) := by decide +kernel
theorem dX10_count_0 : decode cX10_count 0 = .ok (.iconst 0, 1) := by decide +kernel
theorem dX10_count_1 : decode cX10_count 1 = .ok (.istore_n 2, 1) := by decide +kernel
theorem dX10_count_2 : decode cX10_count 2 = .ok (.iconst 0, 1) := by decide +kernel
theorem dX10_count_3 : decode cX10_count 3 = .ok (.istore_n 3, 1) := by decide +kernel
theorem dX10_count_4 : decode cX10_count 4 = .ok (.iconst 0, 1) := by decide +kernel
theorem dX10_count_5 : decode cX10_count 5 = .ok (.istore 4, 2) := by decide +kernel
theorem dX10_count_7 : decode cX10_count 7 = .ok (.iload 4, 2) := by decide +kernel
theorem dX10_count_9 : decode cX10_count 9 = .ok (.sipush 384, 3) := by decide +kernel
theorem dX10_count_12 : decode cX10_count 12 = .ok (.if_icmp .ge 27, 3) := by decide +kernel
theorem dX10_count_15 : decode cX10_count 15 = .ok (.iload_n 2, 1) := by decide +kernel
theorem dX10_count_16 : decode cX10_count 16 = .ok (.aload_n 0, 1) := by decide +kernel
theorem dX10_count_17 : decode cX10_count 17 = .ok (.getfield 44, 3) := by decide +kernel
theorem dX10_count_20 : decode cX10_count 20 = .ok (.iload 4, 2) := by decide +kernel
theorem dX10_count_22 : decode cX10_count 22 = .ok (.iaload, 1) := by decide +kernel
theorem dX10_count_23 : decode cX10_count 23 = .ok (.ifCond .lt 7, 3) := by decide +kernel
theorem dX10_count_30 : decode cX10_count 30 = .ok (.iconst 0, 1) := by decide +kernel
theorem dX10_count_31 : decode cX10_count 31 = .ok (.iadd, 1) := by decide +kernel
theorem dX10_count_32 : decode cX10_count 32 = .ok (.istore_n 2, 1) := by decide +kernel
theorem dX10_count_33 : decode cX10_count 33 = .ok (.iinc 4 1, 3) := by decide +kernel
theorem dX10_count_36 : decode cX10_count 36 = .ok (.goto (-29), 3) := by decide +kernel
theorem dX10_count_39 : decode cX10_count 39 = .ok (.iconst 0, 1) := by decide +kernel
theorem dX10_count_40 : decode cX10_count 40 = .ok (.istore 4, 2) := by decide +kernel
theorem dX10_count_42 : decode cX10_count 42 = .ok (.iload 4, 2) := by decide +kernel
theorem dX10_count_44 : decode cX10_count 44 = .ok (.iconst 4, 1) := by decide +kernel
theorem dX10_count_45 : decode cX10_count 45 = .ok (.if_icmp .ge 27, 3) := by decide +kernel
theorem dX10_count_48 : decode cX10_count 48 = .ok (.iload_n 3, 1) := by decide +kernel
theorem dX10_count_49 : decode cX10_count 49 = .ok (.aload_n 0, 1) := by decide +kernel
theorem dX10_count_50 : decode cX10_count 50 = .ok (.getfield 38, 3) := by decide +kernel
theorem dX10_count_53 : decode cX10_count 53 = .ok (.iload 4, 2) := by decide +kernel
theorem dX10_count_55 : decode cX10_count 55 = .ok (.iaload, 1) := by decide +kernel
theorem dX10_count_56 : decode cX10_count 56 = .ok (.ifCond .lt 7, 3) := by decide +kernel
theorem dX10_count_63 : decode cX10_count 63 = .ok (.iconst 0, 1) := by decide +kernel
theorem dX10_count_64 : decode cX10_count 64 = .ok (.iadd, 1) := by decide +kernel
theorem dX10_count_65 : decode cX10_count 65 = .ok (.istore_n 3, 1) := by decide +kernel
theorem dX10_count_66 : decode cX10_count 66 = .ok (.iinc 4 1, 3) := by decide +kernel
theorem dX10_count_69 : decode cX10_count 69 = .ok (.goto (-27), 3) := by decide +kernel
theorem dX10_count_72 : decode cX10_count 72 = .ok (.iload_n 1, 1) := by decide +kernel
theorem dX10_count_73 : decode cX10_count 73 = .ok (.tableswitch 135 0 8 #[51, 56, 72, 79, 86, 96, 126, 128, 130], 51) := by decide +kernel
theorem dX10_count_124 : decode cX10_count 124 = .ok (.aload_n 0, 1) := by decide +kernel
theorem dX10_count_125 : decode cX10_count 125 = .ok (.getfield 89, 3) := by decide +kernel
theorem dX10_count_128 : decode cX10_count 128 = .ok (.ireturn, 1) := by decide +kernel
theorem dX10_count_129 : decode cX10_count 129 = .ok (.aload_n 0, 1) := by decide +kernel
theorem dX10_count_130 : decode cX10_count 130 = .ok (.getfield 173, 3) := by decide +kernel
theorem dX10_count_133 : decode cX10_count 133 = .ok (.ifCond .eq 10, 3) := by decide +kernel
theorem dX10_count_143 : decode cX10_count 143 = .ok (.iconst 0, 1) := by decide +kernel
theorem dX10_count_144 : decode cX10_count 144 = .ok (.ireturn, 1) := by decide +kernel
theorem dX10_count_145 : decode cX10_count 145 = .ok (.aload_n 0, 1) := by decide +kernel
theorem dX10_count_146 : decode cX10_count 146 = .ok (.bipush 115, 2) := by decide +kernel
theorem dX10_count_148 : decode cX10_count 148 = .ok (.invokevirtual 245, 3) := by decide +kernel
theorem dX10_count_151 : decode cX10_count 151 = .ok (.ireturn, 1) := by decide +kernel
theorem dX10_count_152 : decode cX10_count 152 = .ok (.aload_n 0, 1) := by decide +kernel
theorem dX10_count_153 : decode cX10_count 153 = .ok (.bipush 103, 2) := by decide +kernel
theorem dX10_count_155 : decode cX10_count 155 = .ok (.invokevirtual 245, 3) := by decide +kernel
theorem dX10_count_158 : decode cX10_count 158 = .ok (.ireturn, 1) := by decide +kernel
theorem dX10_count_159 : decode cX10_count 159 = .ok (.aload_n 0, 1) := by decide +kernel
theorem dX10_count_160 : decode cX10_count 160 = .ok (.getfield 28, 3) := by decide +kernel
theorem dX10_count_163 : decode cX10_count 163 = .ok (.sipush 231, 3) := by decide +kernel
theorem dX10_count_166 : decode cX10_count 166 = .ok (.laload, 1) := by decide +kernel
theorem dX10_count_167 : decode cX10_count 167 = .ok (.l2i, 1) := by decide +kernel
theorem dX10_count_168 : decode cX10_count 168 = .ok (.ireturn, 1) := by decide +kernel
theorem dX10_count_169 : decode cX10_count 169 = .ok (.aload_n 0, 1) := by decide +kernel
theorem dX10_count_170 : decode cX10_count 170 = .ok (.getfield 59, 3) := by decide +kernel
theorem dX10_count_173 : decode cX10_count 173 = .ok (.iconst 0, 1) := by decide +kernel
theorem dX10_count_174 : decode cX10_count 174 = .ok (.iaload, 1) := by decide +kernel
theorem dX10_count_175 : decode cX10_count 175 = .ok (.ifCond .le 7, 3) := by decide +kernel
theorem dX10_count_182 : decode cX10_count 182 = .ok (.iconst 0, 1) := by decide +kernel
theorem dX10_count_183 : decode cX10_count 183 = .ok (.aload_n 0, 1) := by decide +kernel
theorem dX10_count_184 : decode cX10_count 184 = .ok (.getfield 59, 3) := by decide +kernel
theorem dX10_count_187 : decode cX10_count 187 = .ok (.iconst 1, 1) := by decide +kernel
theorem dX10_count_188 : decode cX10_count 188 = .ok (.iaload, 1) := by decide +kernel
theorem dX10_count_189 : decode cX10_count 189 = .ok (.ifCond .le 7, 3) := by decide +kernel
theorem dX10_count_196 : decode cX10_count 196 = .ok (.iconst 0, 1) := by decide +kernel
theorem dX10_count_197 : decode cX10_count 197 = .ok (.iadd, 1) := by decide +kernel
theorem dX10_count_198 : decode cX10_count 198 = .ok (.ireturn, 1) := by decide +kernel
theorem dX10_count_199 : decode cX10_count 199 = .ok (.iload_n 3, 1) := by decide +kernel
theorem dX10_count_200 : decode cX10_count 200 = .ok (.ireturn, 1) := by decide +kernel
theorem dX10_count_201 : decode cX10_count 201 = .ok (.iload_n 2, 1) := by decide +kernel
theorem dX10_count_202 : decode cX10_count 202 = .ok (.ireturn, 1) := by decide +kernel
theorem dX10_count_203 : decode cX10_count 203 = .ok (.aload_n 0, 1) := by decide +kernel
theorem dX10_count_204 : decode cX10_count 204 = .ok (.getfield 180, 3) := by decide +kernel
theorem dX10_count_207 : decode cX10_count 207 = .ok (.ireturn, 1) := by decide +kernel
theorem dX10_count_208 : decode cX10_count 208 = .ok (.iconst (-1), 1) := by decide +kernel
theorem dX10_count_209 : decode cX10_count 209 = .ok (.ireturn, 1) := by decide +kernel

def uX10_isSet : List Cond := .code yX10_isSet cX10_isSet 2 (some .boolean) :: ([.fieldLink RX10 173 "RiverModelModel" "isBuilt" "Z"] ++ wsX100)
set_option maxHeartbeats 4000000 in
set_option maxRecDepth 100000 in
theorem c_X10_isSet (l : Launch) (D : va_G) (t : Nat → Nat) (cI cL cC : ClassId) (a0 : Nat) (a1 : Int32) (k_a0 : t a0 = 40) : tM l yX10_isSet uX10_isSet 0 0 D (fF cI cL cC 0 0) (fF cI cL cC 0 0) t cI cL cC [.ref a0, .int a1] wr0 (pI (fun r => r = 0)) := by
  refine tM.ofW (cc := cX10_isSet) (maxL := 2) (ret := (some .boolean)) (by decide) rfl (Nat.le_of_ble_eq_true rfl) ?_
  intro p e s m below meth c hx hb hr hml hown hts hlk H locs hG hK hE hS ls hl
  have hl : lv_has ls 2 [(0, .ref a0), (1, .int a1)] := hl
  have in10 : ∀ w ∈ wsX100, w ∈ uX10_isSet := fun w h => List.mem_cons_of_mem _ (List.mem_append_right _ h)
  refine lv_aload_n hx hb dX10_isSet_0 rfl (lv_at hl 0 rfl) ?_
  obtain ⟨r_1, r_3, r_5, r_7, r_9, r_11, r_13, r_15, r_17, r_19, r_21, r_23, r_25, r_27, r_29, r_31, r_33, r_35, r_37, r_39, r_41, v_43, v_44, v_45, v_46, v_47, r_48, v_50, r_51, at_53, h_2, h_4, h_6, h_8, h_10, h_12, h_14, h_16, h_18, h_20, h_22, h_24, h_26, h_28, h_30, h_32, h_34, h_36, h_38, h_40, h_42, h_49, h_52⟩ := fF_o40 hG k_a0
  refine va_get (D := D) (ci := 9) (v := .int 0) (C := RX10) (T := TX10) (N := 36) hx hb hts in10 hown hK (va_one at_53) 0 rfl rfl 2 (by decide) (hts (.fieldLink RX10 173 "RiverModelModel" "isBuilt" "Z") (List.mem_of_getElem? (i := 1) rfl)) (fun _ h9 => h9) rfl dX10_isSet_1 ?_
  refine lv_if_eq (tgt := 20) hx hb dX10_isSet_4 (by decide) (fun _ => ?_) (fun q => absurd (by decide) q)
  refine lv_iconst (v := 0) hx hb dX10_isSet_20 (by decide) ?_
  exact ty_zret hx hb hr hlk rfl hG hS (by first | exact Or.inl ⟨rfl, by omega⟩ | exact Or.inr ⟨rfl, by omega⟩ | exact Or.inr (Or.inl ⟨rfl, by omega⟩) | exact Or.inr (Or.inr ⟨rfl, by omega⟩) | exact ⟨rfl, by omega⟩ | omega | trivial | rfl | (exfalso; omega)) dX10_isSet_21

def uX10_canSee : List Cond := .code yX10_canSee cX10_canSee 3 (some .boolean) :: ([.methodLink RX10 248 yX10_isSet, .instanceMethod yX10_isSet, .selects RX10 yX10_isSet yX10_isSet, .initialized RX10, .code yX10_isSet cX10_isSet 2 (some .boolean), .fieldLink RX10 173 "RiverModelModel" "isBuilt" "Z"] ++ wsX100)
set_option maxRecDepth 20000 in
theorem gu_X10_canSee_X10_isSet_248 : GoodIn uX10_canSee (wsV RX10 248 RX10 yX10_isSet uX10_isSet) := goodIn_r _ [1, 2, 3, 4, 5, 6, 7, 8, 9, 10, 11, 12, 13, 14, 15, 16, 17, 18, 19, 20, 21, 22, 23, 24, 25, 26, 27, 28, 29, 30, 31, 32, 33, 34, 35, 36, 37, 38, 39, 40, 41, 42] (by decide +kernel) (by decide +kernel)
set_option maxHeartbeats 4000000 in
set_option maxRecDepth 100000 in
theorem c_X10_canSee (l : Launch) (D : va_G) (t : Nat → Nat) (cI cL cC : ClassId) (a0 : Nat) (a1 : Int32) (a2 : Int32) (k_a0 : t a0 = 40) : tM l yX10_canSee uX10_canSee 1 21 D (fF cI cL cC 0 0) (fF cI cL cC 0 0) t cI cL cC [.ref a0, .int a1, .int a2] wr0 (pI (fun r => r = 0)) := by
  refine tM.ofW (cc := cX10_canSee) (maxL := 3) (ret := (some .boolean)) (by decide) rfl (Nat.le_of_ble_eq_true rfl) ?_
  intro p e s m below meth c hx hb hr hml hown hts hlk H locs hG hK hE hS ls hl
  have hl : lv_has ls 3 [(0, .ref a0), (1, .int a1), (2, .int a2)] := hl
  skip
  refine lv_aload_n hx hb dX10_canSee_0 rfl (lv_at hl 0 rfl) ?_
  refine lv_iload_n hx hb dX10_canSee_1 rfl (lv_at hl 1 rfl) ?_
  obtain ⟨r_1, r_3, r_5, r_7, r_9, r_11, r_13, r_15, r_17, r_19, r_21, r_23, r_25, r_27, r_29, r_31, r_33, r_35, r_37, r_39, r_41, v_43, v_44, v_45, v_46, v_47, r_48, v_50, r_51, at_53, h_2, h_4, h_6, h_8, h_10, h_12, h_14, h_16, h_18, h_20, h_22, h_24, h_26, h_28, h_30, h_32, h_34, h_36, h_38, h_40, h_42, h_49, h_52⟩ := fF_o40 hG k_a0
  refine ty_calli ((W.runV (As := [.int a1]) (rest := []) ⟨hx, hb, hml, hown, hts⟩ (c_X10_isSet l D t cI cL cC a0 a1 k_a0) (cwV 1 hts gu_X10_canSee_X10_isSet_248 rfl rfl rfl (by decide +kernel) ⟨Nat.le_of_ble_eq_true rfl, Nat.le_of_ble_eq_true rfl⟩) (tP_V hG hE at_53 rfl) rfl rfl hl.1 rfl (lv_room (Nat.le_of_ble_eq_true rfl)) dX10_canSee_2 ⟨Nat.le_of_ble_eq_true rfl, Nat.le_of_ble_eq_true rfl⟩)) hS (fun _ h => h) (fun r_54 H locs hp_55 hG hS o_56 => ?_)
  have at_53 := va_at.keptC at_53 o_56 k_a0 rfl
  rcases hp_55 with rfl
  refine lv_if_eq (tgt := 30) hx hb dX10_canSee_5 (by decide) (fun _ => ?_) (fun q => absurd (by decide) q)
  refine lv_iconst (v := 0) hx hb dX10_canSee_30 (by decide) ?_
  exact ty_zret hx hb hr hlk rfl hG hS (by first | exact Or.inl ⟨rfl, by omega⟩ | exact Or.inr ⟨rfl, by omega⟩ | exact Or.inr (Or.inl ⟨rfl, by omega⟩) | exact Or.inr (Or.inr ⟨rfl, by omega⟩) | exact ⟨rfl, by omega⟩ | omega | trivial | rfl | (exfalso; omega)) dX10_canSee_31

def uX10_ofKind : List Cond := .code yX10_ofKind cX10_ofKind 4 (some .int) :: ([.fieldLink RX10 163 "RiverModelModel" "items" "I"] ++ wsX100)
set_option maxHeartbeats 4000000 in
set_option maxRecDepth 100000 in
theorem c_X10_ofKind (l : Launch) (D : va_G) (t : Nat → Nat) (cI cL cC : ClassId) (a0 : Nat) (a1 : Int32) (k_a0 : t a0 = 40) : tM l yX10_ofKind uX10_ofKind 0 0 D (fF cI cL cC 0 0) (fF cI cL cC 0 0) t cI cL cC [.ref a0, .int a1] wr0 (pI (fun r => r = 0)) := by
  refine tM.ofW (cc := cX10_ofKind) (maxL := 4) (ret := (some .int)) (by decide) rfl (Nat.le_of_ble_eq_true rfl) ?_
  intro p e s m below meth c hx hb hr hml hown hts hlk H locs hG hK hE hS ls hl
  have hl : lv_has ls 4 [(0, .ref a0), (1, .int a1)] := hl
  have in10 : ∀ w ∈ wsX100, w ∈ uX10_ofKind := fun w h => List.mem_cons_of_mem _ (List.mem_append_right _ h)
  refine lv_iconst (v := 0) hx hb dX10_ofKind_0 (by decide) ?_
  refine lv_istore_n (lv' := [(2, .int 0), (0, .ref a0), (1, .int a1)]) hx hb dX10_ofKind_1 rfl hl (by decide) rfl (fun ls hl => ?_)
  refine lv_iconst (v := 0) hx hb dX10_ofKind_2 (by decide) ?_
  refine lv_istore_n (lv' := [(3, .int 0), (2, .int 0), (0, .ref a0), (1, .int a1)]) hx hb dX10_ofKind_3 rfl hl (by decide) rfl (fun ls hl => ?_)
  refine lv_iload_n hx hb dX10_ofKind_4 rfl (lv_at hl 0 rfl) ?_
  refine lv_aload_n hx hb dX10_ofKind_5 rfl (lv_at hl 2 rfl) ?_
  obtain ⟨r_1, r_3, r_5, r_7, r_9, r_11, r_13, r_15, r_17, r_19, r_21, r_23, r_25, r_27, r_29, r_31, r_33, r_35, r_37, r_39, r_41, v_43, v_44, v_45, v_46, v_47, r_48, v_50, r_51, at_53, h_2, h_4, h_6, h_8, h_10, h_12, h_14, h_16, h_18, h_20, h_22, h_24, h_26, h_28, h_30, h_32, h_34, h_36, h_38, h_40, h_42, h_49, h_52⟩ := fF_o40 hG k_a0
  refine va_get (D := D) (ci := 9) (v := .int 0) (C := RX10) (T := TX10) (N := 36) hx hb hts in10 hown hK (va_one at_53) 0 rfl rfl 3 (by decide) (hts (.fieldLink RX10 163 "RiverModelModel" "items" "I") (List.mem_of_getElem? (i := 1) rfl)) (fun _ h9 => h9) rfl dX10_ofKind_6 ?_
  refine lv_pc (pc2 := 9) rfl ?_
  refine lv_icmp_ge (tgt := 43) hx hb dX10_ofKind_9 (by decide) (fun _ => ?_) (fun q => absurd (by decide) q)
  refine lv_iload_n hx hb dX10_ofKind_43 rfl (lv_at hl 1 rfl) ?_
  exact ty_iret hx hb hr hlk hG hS (by first | exact Or.inl ⟨rfl, by omega⟩ | exact Or.inr ⟨rfl, by omega⟩ | exact Or.inr (Or.inl ⟨rfl, by omega⟩) | exact Or.inr (Or.inr ⟨rfl, by omega⟩) | exact ⟨rfl, by omega⟩ | omega | trivial | rfl | (exfalso; omega)) dX10_ofKind_44

def uX10_item : List Cond := .code yX10_item cX10_item 3 (some .int) :: ([.constantLong RX10 194 (39), .methodLink RX10 85 yX10_in, .static yX10_in, .initialized RX10, .constantLong RX10 196 (5), .fieldLink RX10 173 "RiverModelModel" "isBuilt" "Z", .code yX10_in cX10_in 6 (some .boolean)] ++ wsX100)
set_option maxRecDepth 20000 in
theorem gu_X10_item_X10_in_85 : GoodIn uX10_item (va_wsS RX10 85 yX10_in uX10_in) := goodIn_r _ [2, 3, 4, 7] (by decide +kernel) (by decide +kernel)
set_option maxHeartbeats 4000000 in
set_option maxRecDepth 100000 in
theorem c_X10_item (l : Launch) (D : va_G) (t : Nat → Nat) (cI cL cC : ClassId) (a0 : Nat) (a1 : Int32) (a2 : Int32) (k_a0 : t a0 = 40) : tM l yX10_item uX10_item 1 25 D (fF cI cL cC 0 0) (fF cI cL cC 0 0) t cI cL cC [.ref a0, .int a1, .int a2] wr0 (pI (fun r => (r = (-1) ∧ (a1.toInt < 0 ∨ 39 < a1.toInt ∨ a2.toInt < 0 ∨ 5 < a2.toInt)) ∨ (r = (-2) ∧ 0 ≤ a1.toInt ∧ a1.toInt ≤ 39 ∧ 0 ≤ a2.toInt ∧ a2.toInt ≤ 5))) := by
  refine tM.ofW (cc := cX10_item) (maxL := 3) (ret := (some .int)) (by decide) rfl (Nat.le_of_ble_eq_true rfl) ?_
  intro p e s m below meth c hx hb hr hml hown hts hlk H locs hG hK hE hS ls hl
  have hl : lv_has ls 3 [(0, .ref a0), (1, .int a1), (2, .int a2)] := hl
  have in10 : ∀ w ∈ wsX100, w ∈ uX10_item := fun w h => List.mem_cons_of_mem _ (List.mem_append_right _ h)
  refine lv_iload_n hx hb dX10_item_0 rfl (lv_at hl 1 rfl) ?_
  refine lv_i2l (v := a1.toInt64) hx hb dX10_item_1 rfl ?_
  refine lv_lconst (v := 0) hx hb dX10_item_2 (by decide) ?_
  refine lv_ldc2 hx hb hown (hts (.constantLong RX10 194 (39)) (List.mem_of_getElem? (i := 1) rfl)) dX10_item_3 ?_
  refine ty_calli ((W.runS (As := [.long a1.toInt64, .long 0, .long 39]) (rest := []) ⟨hx, hb, hml, hown, hts⟩ (c_in l D t cI cL cC 0 0 a1.toInt64 0 39 a1.toInt 0 39 (q_i2l _) (by decide) (by decide) ) (va_cwS 3 hts gu_X10_item_X10_in_85 rfl rfl rfl (by decide +kernel) ⟨Nat.le_of_ble_eq_true rfl, Nat.le_of_ble_eq_true rfl⟩) (tP_S hG hE) rfl rfl hl.1 rfl (lv_room (Nat.le_of_ble_eq_true rfl)) dX10_item_6 ⟨Nat.le_of_ble_eq_true rfl, Nat.le_of_ble_eq_true rfl⟩)) hS (fun _ h => h) (fun r_1 H locs hp_2 hG hS o_3 => ?_)
  rcases hp_2 with ⟨rfl, hc_190, hc_191⟩ | ⟨rfl, hc_192⟩
  · skip
    refine lv_if_eq (tgt := 24) hx hb dX10_item_9 (by decide) (fun q => absurd q (by decide)) (fun _ => ?_)
    refine lv_iload_n hx hb dX10_item_12 rfl (lv_at hl 2 rfl) ?_
    refine lv_pc (pc2 := 13) rfl ?_
    refine lv_i2l (v := a2.toInt64) hx hb dX10_item_13 rfl ?_
    refine lv_lconst (v := 0) hx hb dX10_item_14 (by decide) ?_
    refine lv_ldc2 hx hb hown (hts (.constantLong RX10 196 (5)) (List.mem_of_getElem? (i := 5) rfl)) dX10_item_15 ?_
    refine ty_calli ((W.runS (As := [.long a2.toInt64, .long 0, .long 5]) (rest := []) ⟨hx, hb, hml, hown, hts⟩ (c_in l D t cI cL cC 0 0 a2.toInt64 0 5 a2.toInt 0 5 (q_i2l _) (by decide) (by decide) ) (va_cwS 3 hts gu_X10_item_X10_in_85 rfl rfl rfl (by decide +kernel) ⟨Nat.le_of_ble_eq_true rfl, Nat.le_of_ble_eq_true rfl⟩) (tP_S hG hE) rfl rfl hl.1 rfl (lv_room (Nat.le_of_ble_eq_true rfl)) dX10_item_18 ⟨Nat.le_of_ble_eq_true rfl, Nat.le_of_ble_eq_true rfl⟩)) hS (fun _ h => h) (fun r_4 H locs hp_5 hG hS o_6 => ?_)
    rcases hp_5 with ⟨rfl, hc_193, hc_194⟩ | ⟨rfl, hc_195⟩
    · skip
      refine lv_if_ne (tgt := 26) hx hb dX10_item_21 (by decide) (fun _ => ?_) (fun q => absurd q (by decide))
      refine lv_aload_n hx hb dX10_item_26 rfl (lv_at hl 0 rfl) ?_
      obtain ⟨r_7, r_9, r_11, r_13, r_15, r_17, r_19, r_21, r_23, r_25, r_27, r_29, r_31, r_33, r_35, r_37, r_39, r_41, r_43, r_45, r_47, v_49, v_50, v_51, v_52, v_53, r_54, v_56, r_57, at_59, h_8, h_10, h_12, h_14, h_16, h_18, h_20, h_22, h_24, h_26, h_28, h_30, h_32, h_34, h_36, h_38, h_40, h_42, h_44, h_46, h_48, h_55, h_58⟩ := fF_o40 hG k_a0
      refine va_get (D := D) (ci := 9) (v := .int 0) (C := RX10) (T := TX10) (N := 36) hx hb hts in10 hown hK (va_one at_59) 0 rfl rfl 2 (by decide) (hts (.fieldLink RX10 173 "RiverModelModel" "isBuilt" "Z") (List.mem_of_getElem? (i := 6) rfl)) (fun _ h9 => h9) rfl dX10_item_27 ?_
      refine lv_if_eq (tgt := 41) hx hb dX10_item_30 (by decide) (fun _ => ?_) (fun q => absurd (by decide) q)
      refine lv_pc (pc2 := 41) rfl ?_
      refine lv_bipush (v := (-2)) hx hb dX10_item_41 (by decide) ?_
      exact ty_iret hx hb hr hlk hG hS (by first | exact Or.inl ⟨rfl, by omega⟩ | exact Or.inr ⟨rfl, by omega⟩ | exact Or.inr (Or.inl ⟨rfl, by omega⟩) | exact Or.inr (Or.inr ⟨rfl, by omega⟩) | exact ⟨rfl, by omega⟩ | omega | trivial | rfl | (exfalso; omega)) dX10_item_43
    · skip
      refine lv_if_ne (tgt := 26) hx hb dX10_item_21 (by decide) (fun q => absurd rfl q) (fun _ => ?_)
      refine lv_iconst (v := (-1)) hx hb dX10_item_24 (by decide) ?_
      exact ty_iret hx hb hr hlk hG hS (by first | exact Or.inl ⟨rfl, by omega⟩ | exact Or.inr ⟨rfl, by omega⟩ | exact Or.inr (Or.inl ⟨rfl, by omega⟩) | exact Or.inr (Or.inr ⟨rfl, by omega⟩) | exact ⟨rfl, by omega⟩ | omega | trivial | rfl | (exfalso; omega)) dX10_item_25
  · skip
    refine lv_if_eq (tgt := 24) hx hb dX10_item_9 (by decide) (fun _ => ?_) (fun q => absurd (by decide) q)
    refine lv_iconst (v := (-1)) hx hb dX10_item_24 (by decide) ?_
    exact ty_iret hx hb hr hlk hG hS (by first | exact Or.inl ⟨rfl, by omega⟩ | exact Or.inr ⟨rfl, by omega⟩ | exact Or.inr (Or.inl ⟨rfl, by omega⟩) | exact Or.inr (Or.inr ⟨rfl, by omega⟩) | exact ⟨rfl, by omega⟩ | omega | trivial | rfl | (exfalso; omega)) dX10_item_25

def uX10_anew : List Cond := .code yX10_anew cX10_anew 2 (some .int) :: ([.fieldLink RX10 173 "RiverModelModel" "isBuilt" "Z"] ++ wsX100)
set_option maxHeartbeats 4000000 in
set_option maxRecDepth 100000 in
theorem c_X10_anew (l : Launch) (D : va_G) (t : Nat → Nat) (cI cL cC : ClassId) (a0 : Nat) (k_a0 : t a0 = 40) : tM l yX10_anew uX10_anew 0 0 D (fF cI cL cC 0 0) (fF cI cL cC 0 0) t cI cL cC [.ref a0] wr0 (pI (fun r => r = (-2))) := by
  refine tM.ofW (cc := cX10_anew) (maxL := 2) (ret := (some .int)) (by decide) rfl (Nat.le_of_ble_eq_true rfl) ?_
  intro p e s m below meth c hx hb hr hml hown hts hlk H locs hG hK hE hS ls hl
  have hl : lv_has ls 2 [(0, .ref a0)] := hl
  have in10 : ∀ w ∈ wsX100, w ∈ uX10_anew := fun w h => List.mem_cons_of_mem _ (List.mem_append_right _ h)
  refine lv_aload_n hx hb dX10_anew_0 rfl (lv_at hl 0 rfl) ?_
  obtain ⟨r_1, r_3, r_5, r_7, r_9, r_11, r_13, r_15, r_17, r_19, r_21, r_23, r_25, r_27, r_29, r_31, r_33, r_35, r_37, r_39, r_41, v_43, v_44, v_45, v_46, v_47, r_48, v_50, r_51, at_53, h_2, h_4, h_6, h_8, h_10, h_12, h_14, h_16, h_18, h_20, h_22, h_24, h_26, h_28, h_30, h_32, h_34, h_36, h_38, h_40, h_42, h_49, h_52⟩ := fF_o40 hG k_a0
  refine va_get (D := D) (ci := 9) (v := .int 0) (C := RX10) (T := TX10) (N := 36) hx hb hts in10 hown hK (va_one at_53) 0 rfl rfl 2 (by decide) (hts (.fieldLink RX10 173 "RiverModelModel" "isBuilt" "Z") (List.mem_of_getElem? (i := 1) rfl)) (fun _ h9 => h9) rfl dX10_anew_1 ?_
  refine lv_if_ne (tgt := 10) hx hb dX10_anew_4 (by decide) (fun q => absurd rfl q) (fun _ => ?_)
  refine lv_bipush (v := (-2)) hx hb dX10_anew_7 (by decide) ?_
  exact ty_iret hx hb hr hlk hG hS (by first | exact Or.inl ⟨rfl, by omega⟩ | exact Or.inr ⟨rfl, by omega⟩ | exact Or.inr (Or.inl ⟨rfl, by omega⟩) | exact Or.inr (Or.inr ⟨rfl, by omega⟩) | exact ⟨rfl, by omega⟩ | omega | trivial | rfl | (exfalso; omega)) dX10_anew_9

def uX10_run : List Cond := .code yX10_run cX10_run 3 (some .int) :: ([.constantLong RX10 229 (96), .methodLink RX10 85 yX10_in, .static yX10_in, .initialized RX10, .fieldLink RX10 173 "RiverModelModel" "isBuilt" "Z", .code yX10_in cX10_in 6 (some .boolean)] ++ wsX100)
set_option maxRecDepth 20000 in
theorem gu_X10_run_X10_in_85 : GoodIn uX10_run (va_wsS RX10 85 yX10_in uX10_in) := goodIn_r _ [2, 3, 4, 6] (by decide +kernel) (by decide +kernel)
set_option maxHeartbeats 4000000 in
set_option maxRecDepth 100000 in
theorem c_X10_run (l : Launch) (D : va_G) (t : Nat → Nat) (cI cL cC : ClassId) (a0 : Nat) (a1 : Int32) (k_a0 : t a0 = 40) : tM l yX10_run uX10_run 1 25 D (fF cI cL cC 0 0) (fF cI cL cC 0 0) t cI cL cC [.ref a0, .int a1] wr0 (pI (fun r => (r = (-1) ∧ (a1.toInt < 1 ∨ 96 < a1.toInt)) ∨ (r = (-2) ∧ 1 ≤ a1.toInt ∧ a1.toInt ≤ 96))) := by
  refine tM.ofW (cc := cX10_run) (maxL := 3) (ret := (some .int)) (by decide) rfl (Nat.le_of_ble_eq_true rfl) ?_
  intro p e s m below meth c hx hb hr hml hown hts hlk H locs hG hK hE hS ls hl
  have hl : lv_has ls 3 [(0, .ref a0), (1, .int a1)] := hl
  have in10 : ∀ w ∈ wsX100, w ∈ uX10_run := fun w h => List.mem_cons_of_mem _ (List.mem_append_right _ h)
  refine lv_iload_n hx hb dX10_run_0 rfl (lv_at hl 1 rfl) ?_
  refine lv_i2l (v := a1.toInt64) hx hb dX10_run_1 rfl ?_
  refine lv_lconst (v := 1) hx hb dX10_run_2 (by decide) ?_
  refine lv_ldc2 hx hb hown (hts (.constantLong RX10 229 (96)) (List.mem_of_getElem? (i := 1) rfl)) dX10_run_3 ?_
  refine ty_calli ((W.runS (As := [.long a1.toInt64, .long 1, .long 96]) (rest := []) ⟨hx, hb, hml, hown, hts⟩ (c_in l D t cI cL cC 0 0 a1.toInt64 1 96 a1.toInt 1 96 (q_i2l _) (by decide) (by decide) ) (va_cwS 3 hts gu_X10_run_X10_in_85 rfl rfl rfl (by decide +kernel) ⟨Nat.le_of_ble_eq_true rfl, Nat.le_of_ble_eq_true rfl⟩) (tP_S hG hE) rfl rfl hl.1 rfl (lv_room (Nat.le_of_ble_eq_true rfl)) dX10_run_6 ⟨Nat.le_of_ble_eq_true rfl, Nat.le_of_ble_eq_true rfl⟩)) hS (fun _ h => h) (fun r_1 H locs hp_2 hG hS o_3 => ?_)
  rcases hp_2 with ⟨rfl, hc_196, hc_197⟩ | ⟨rfl, hc_198⟩
  · skip
    refine lv_if_ne (tgt := 14) hx hb dX10_run_9 (by decide) (fun _ => ?_) (fun q => absurd q (by decide))
    refine lv_aload_n hx hb dX10_run_14 rfl (lv_at hl 0 rfl) ?_
    refine lv_pc (pc2 := 15) rfl ?_
    obtain ⟨r_4, r_6, r_8, r_10, r_12, r_14, r_16, r_18, r_20, r_22, r_24, r_26, r_28, r_30, r_32, r_34, r_36, r_38, r_40, r_42, r_44, v_46, v_47, v_48, v_49, v_50, r_51, v_53, r_54, at_56, h_5, h_7, h_9, h_11, h_13, h_15, h_17, h_19, h_21, h_23, h_25, h_27, h_29, h_31, h_33, h_35, h_37, h_39, h_41, h_43, h_45, h_52, h_55⟩ := fF_o40 hG k_a0
    refine va_get (D := D) (ci := 9) (v := .int 0) (C := RX10) (T := TX10) (N := 36) hx hb hts in10 hown hK (va_one at_56) 0 rfl rfl 2 (by decide) (hts (.fieldLink RX10 173 "RiverModelModel" "isBuilt" "Z") (List.mem_of_getElem? (i := 5) rfl)) (fun _ h9 => h9) rfl dX10_run_15 ?_
    refine lv_if_ne (tgt := 24) hx hb dX10_run_18 (by decide) (fun q => absurd rfl q) (fun _ => ?_)
    refine lv_bipush (v := (-2)) hx hb dX10_run_21 (by decide) ?_
    exact ty_iret hx hb hr hlk hG hS (by first | exact Or.inl ⟨rfl, by omega⟩ | exact Or.inr ⟨rfl, by omega⟩ | exact Or.inr (Or.inl ⟨rfl, by omega⟩) | exact Or.inr (Or.inr ⟨rfl, by omega⟩) | exact ⟨rfl, by omega⟩ | omega | trivial | rfl | (exfalso; omega)) dX10_run_23
  · skip
    refine lv_if_ne (tgt := 14) hx hb dX10_run_9 (by decide) (fun q => absurd rfl q) (fun _ => ?_)
    refine lv_iconst (v := (-1)) hx hb dX10_run_12 (by decide) ?_
    exact ty_iret hx hb hr hlk hG hS (by first | exact Or.inl ⟨rfl, by omega⟩ | exact Or.inr ⟨rfl, by omega⟩ | exact Or.inr (Or.inl ⟨rfl, by omega⟩) | exact Or.inr (Or.inr ⟨rfl, by omega⟩) | exact ⟨rfl, by omega⟩ | omega | trivial | rfl | (exfalso; omega)) dX10_run_13

def uX10_has : List Cond := .code yX10_has cX10_has 3 (some .long) :: ([.constantLong RX10 234 (15), .methodLink RX10 85 yX10_in, .static yX10_in, .initialized RX10, .fieldLink RX10 173 "RiverModelModel" "isBuilt" "Z", .constantLong RX10 238 (-2), .constantLong RX10 236 (-1), .code yX10_in cX10_in 6 (some .boolean)] ++ wsX100)
set_option maxRecDepth 20000 in
theorem gu_X10_has_X10_in_85 : GoodIn uX10_has (va_wsS RX10 85 yX10_in uX10_in) := goodIn_r _ [2, 3, 4, 8] (by decide +kernel) (by decide +kernel)
set_option maxHeartbeats 4000000 in
set_option maxRecDepth 100000 in
theorem c_X10_has (l : Launch) (D : va_G) (t : Nat → Nat) (cI cL cC : ClassId) (a0 : Nat) (a1 : Int32) (a2 : Int32) (k_a0 : t a0 = 40) : tM l yX10_has uX10_has 1 25 D (fF cI cL cC 0 0) (fF cI cL cC 0 0) t cI cL cC [.ref a0, .int a1, .int a2] wr0 (pL (fun r => (r = (-1) ∧ (a1.toInt < 0 ∨ 15 < a1.toInt ∨ a2.toInt < 0 ∨ 1 < a2.toInt)) ∨ (r = (-2) ∧ 0 ≤ a1.toInt ∧ a1.toInt ≤ 15 ∧ 0 ≤ a2.toInt ∧ a2.toInt ≤ 1))) := by
  refine tM.ofW (cc := cX10_has) (maxL := 3) (ret := (some .long)) (by decide) rfl (Nat.le_of_ble_eq_true rfl) ?_
  intro p e s m below meth c hx hb hr hml hown hts hlk H locs hG hK hE hS ls hl
  have hl : lv_has ls 3 [(0, .ref a0), (1, .int a1), (2, .int a2)] := hl
  have in10 : ∀ w ∈ wsX100, w ∈ uX10_has := fun w h => List.mem_cons_of_mem _ (List.mem_append_right _ h)
  refine lv_iload_n hx hb dX10_has_0 rfl (lv_at hl 1 rfl) ?_
  refine lv_i2l (v := a1.toInt64) hx hb dX10_has_1 rfl ?_
  refine lv_lconst (v := 0) hx hb dX10_has_2 (by decide) ?_
  refine lv_ldc2 hx hb hown (hts (.constantLong RX10 234 (15)) (List.mem_of_getElem? (i := 1) rfl)) dX10_has_3 ?_
  refine ty_calli ((W.runS (As := [.long a1.toInt64, .long 0, .long 15]) (rest := []) ⟨hx, hb, hml, hown, hts⟩ (c_in l D t cI cL cC 0 0 a1.toInt64 0 15 a1.toInt 0 15 (q_i2l _) (by decide) (by decide) ) (va_cwS 3 hts gu_X10_has_X10_in_85 rfl rfl rfl (by decide +kernel) ⟨Nat.le_of_ble_eq_true rfl, Nat.le_of_ble_eq_true rfl⟩) (tP_S hG hE) rfl rfl hl.1 rfl (lv_room (Nat.le_of_ble_eq_true rfl)) dX10_has_6 ⟨Nat.le_of_ble_eq_true rfl, Nat.le_of_ble_eq_true rfl⟩)) hS (fun _ h => h) (fun r_1 H locs hp_2 hG hS o_3 => ?_)
  rcases hp_2 with ⟨rfl, hc_199, hc_200⟩ | ⟨rfl, hc_201⟩
  · skip
    refine lv_if_eq (tgt := 22) hx hb dX10_has_9 (by decide) (fun q => absurd q (by decide)) (fun _ => ?_)
    refine lv_iload_n hx hb dX10_has_12 rfl (lv_at hl 2 rfl) ?_
    refine lv_pc (pc2 := 13) rfl ?_
    refine lv_i2l (v := a2.toInt64) hx hb dX10_has_13 rfl ?_
    refine lv_lconst (v := 0) hx hb dX10_has_14 (by decide) ?_
    refine lv_lconst (v := 1) hx hb dX10_has_15 (by decide) ?_
    refine ty_calli ((W.runS (As := [.long a2.toInt64, .long 0, .long 1]) (rest := []) ⟨hx, hb, hml, hown, hts⟩ (c_in l D t cI cL cC 0 0 a2.toInt64 0 1 a2.toInt 0 1 (q_i2l _) (by decide) (by decide) ) (va_cwS 3 hts gu_X10_has_X10_in_85 rfl rfl rfl (by decide +kernel) ⟨Nat.le_of_ble_eq_true rfl, Nat.le_of_ble_eq_true rfl⟩) (tP_S hG hE) rfl rfl hl.1 rfl (lv_room (Nat.le_of_ble_eq_true rfl)) dX10_has_16 ⟨Nat.le_of_ble_eq_true rfl, Nat.le_of_ble_eq_true rfl⟩)) hS (fun _ h => h) (fun r_4 H locs hp_5 hG hS o_6 => ?_)
    rcases hp_5 with ⟨rfl, hc_202, hc_203⟩ | ⟨rfl, hc_204⟩
    · skip
      refine lv_if_ne (tgt := 26) hx hb dX10_has_19 (by decide) (fun _ => ?_) (fun q => absurd q (by decide))
      refine lv_aload_n hx hb dX10_has_26 rfl (lv_at hl 0 rfl) ?_
      obtain ⟨r_7, r_9, r_11, r_13, r_15, r_17, r_19, r_21, r_23, r_25, r_27, r_29, r_31, r_33, r_35, r_37, r_39, r_41, r_43, r_45, r_47, v_49, v_50, v_51, v_52, v_53, r_54, v_56, r_57, at_59, h_8, h_10, h_12, h_14, h_16, h_18, h_20, h_22, h_24, h_26, h_28, h_30, h_32, h_34, h_36, h_38, h_40, h_42, h_44, h_46, h_48, h_55, h_58⟩ := fF_o40 hG k_a0
      refine va_get (D := D) (ci := 9) (v := .int 0) (C := RX10) (T := TX10) (N := 36) hx hb hts in10 hown hK (va_one at_59) 0 rfl rfl 2 (by decide) (hts (.fieldLink RX10 173 "RiverModelModel" "isBuilt" "Z") (List.mem_of_getElem? (i := 5) rfl)) (fun _ h9 => h9) rfl dX10_has_27 ?_
      refine lv_if_eq (tgt := 41) hx hb dX10_has_30 (by decide) (fun _ => ?_) (fun q => absurd (by decide) q)
      refine lv_pc (pc2 := 41) rfl ?_
      refine lv_ldc2 hx hb hown (hts (.constantLong RX10 238 (-2)) (List.mem_of_getElem? (i := 6) rfl)) dX10_has_41 ?_
      exact ty_lret hx hb hr hlk hG hS (by first | exact Or.inl ⟨rfl, by omega⟩ | exact Or.inr ⟨rfl, by omega⟩ | exact Or.inr (Or.inl ⟨rfl, by omega⟩) | exact Or.inr (Or.inr ⟨rfl, by omega⟩) | exact ⟨rfl, by omega⟩ | omega | trivial | rfl | (exfalso; omega)) dX10_has_44
    · skip
      refine lv_if_ne (tgt := 26) hx hb dX10_has_19 (by decide) (fun q => absurd rfl q) (fun _ => ?_)
      refine lv_ldc2 hx hb hown (hts (.constantLong RX10 236 (-1)) (List.mem_of_getElem? (i := 7) rfl)) dX10_has_22 ?_
      exact ty_lret hx hb hr hlk hG hS (by first | exact Or.inl ⟨rfl, by omega⟩ | exact Or.inr ⟨rfl, by omega⟩ | exact Or.inr (Or.inl ⟨rfl, by omega⟩) | exact Or.inr (Or.inr ⟨rfl, by omega⟩) | exact ⟨rfl, by omega⟩ | omega | trivial | rfl | (exfalso; omega)) dX10_has_25
  · skip
    refine lv_if_eq (tgt := 22) hx hb dX10_has_9 (by decide) (fun _ => ?_) (fun q => absurd (by decide) q)
    refine lv_ldc2 hx hb hown (hts (.constantLong RX10 236 (-1)) (List.mem_of_getElem? (i := 7) rfl)) dX10_has_22 ?_
    exact ty_lret hx hb hr hlk hG hS (by first | exact Or.inl ⟨rfl, by omega⟩ | exact Or.inr ⟨rfl, by omega⟩ | exact Or.inr (Or.inl ⟨rfl, by omega⟩) | exact Or.inr (Or.inr ⟨rfl, by omega⟩) | exact ⟨rfl, by omega⟩ | omega | trivial | rfl | (exfalso; omega)) dX10_has_25

def uX10_flow : List Cond := .code yX10_flow cX10_flow 2 (some .long) :: ([.constantLong RX10 194 (39), .methodLink RX10 85 yX10_in, .static yX10_in, .initialized RX10, .fieldLink RX10 173 "RiverModelModel" "isBuilt" "Z", .constantLong RX10 238 (-2), .constantLong RX10 236 (-1), .code yX10_in cX10_in 6 (some .boolean)] ++ wsX100)
set_option maxRecDepth 20000 in
theorem gu_X10_flow_X10_in_85 : GoodIn uX10_flow (va_wsS RX10 85 yX10_in uX10_in) := goodIn_r _ [2, 3, 4, 8] (by decide +kernel) (by decide +kernel)
set_option maxHeartbeats 4000000 in
set_option maxRecDepth 100000 in
theorem c_X10_flow (l : Launch) (D : va_G) (t : Nat → Nat) (cI cL cC : ClassId) (a0 : Nat) (a1 : Int32) (k_a0 : t a0 = 40) : tM l yX10_flow uX10_flow 1 25 D (fF cI cL cC 0 0) (fF cI cL cC 0 0) t cI cL cC [.ref a0, .int a1] wr0 (pL (fun r => (r = (-1) ∧ (a1.toInt < 0 ∨ 39 < a1.toInt)) ∨ (r = (-2) ∧ 0 ≤ a1.toInt ∧ a1.toInt ≤ 39))) := by
  refine tM.ofW (cc := cX10_flow) (maxL := 2) (ret := (some .long)) (by decide) rfl (Nat.le_of_ble_eq_true rfl) ?_
  intro p e s m below meth c hx hb hr hml hown hts hlk H locs hG hK hE hS ls hl
  have hl : lv_has ls 2 [(0, .ref a0), (1, .int a1)] := hl
  have in10 : ∀ w ∈ wsX100, w ∈ uX10_flow := fun w h => List.mem_cons_of_mem _ (List.mem_append_right _ h)
  refine lv_iload_n hx hb dX10_flow_0 rfl (lv_at hl 1 rfl) ?_
  refine lv_i2l (v := a1.toInt64) hx hb dX10_flow_1 rfl ?_
  refine lv_lconst (v := 0) hx hb dX10_flow_2 (by decide) ?_
  refine lv_ldc2 hx hb hown (hts (.constantLong RX10 194 (39)) (List.mem_of_getElem? (i := 1) rfl)) dX10_flow_3 ?_
  refine ty_calli ((W.runS (As := [.long a1.toInt64, .long 0, .long 39]) (rest := []) ⟨hx, hb, hml, hown, hts⟩ (c_in l D t cI cL cC 0 0 a1.toInt64 0 39 a1.toInt 0 39 (q_i2l _) (by decide) (by decide) ) (va_cwS 3 hts gu_X10_flow_X10_in_85 rfl rfl rfl (by decide +kernel) ⟨Nat.le_of_ble_eq_true rfl, Nat.le_of_ble_eq_true rfl⟩) (tP_S hG hE) rfl rfl hl.1 rfl (lv_room (Nat.le_of_ble_eq_true rfl)) dX10_flow_6 ⟨Nat.le_of_ble_eq_true rfl, Nat.le_of_ble_eq_true rfl⟩)) hS (fun _ h => h) (fun r_1 H locs hp_2 hG hS o_3 => ?_)
  rcases hp_2 with ⟨rfl, hc_205, hc_206⟩ | ⟨rfl, hc_207⟩
  · skip
    refine lv_if_ne (tgt := 16) hx hb dX10_flow_9 (by decide) (fun _ => ?_) (fun q => absurd q (by decide))
    refine lv_aload_n hx hb dX10_flow_16 rfl (lv_at hl 0 rfl) ?_
    refine lv_pc (pc2 := 17) rfl ?_
    obtain ⟨r_4, r_6, r_8, r_10, r_12, r_14, r_16, r_18, r_20, r_22, r_24, r_26, r_28, r_30, r_32, r_34, r_36, r_38, r_40, r_42, r_44, v_46, v_47, v_48, v_49, v_50, r_51, v_53, r_54, at_56, h_5, h_7, h_9, h_11, h_13, h_15, h_17, h_19, h_21, h_23, h_25, h_27, h_29, h_31, h_33, h_35, h_37, h_39, h_41, h_43, h_45, h_52, h_55⟩ := fF_o40 hG k_a0
    refine va_get (D := D) (ci := 9) (v := .int 0) (C := RX10) (T := TX10) (N := 36) hx hb hts in10 hown hK (va_one at_56) 0 rfl rfl 2 (by decide) (hts (.fieldLink RX10 173 "RiverModelModel" "isBuilt" "Z") (List.mem_of_getElem? (i := 5) rfl)) (fun _ h9 => h9) rfl dX10_flow_17 ?_
    refine lv_if_eq (tgt := 44) hx hb dX10_flow_20 (by decide) (fun _ => ?_) (fun q => absurd (by decide) q)
    refine lv_ldc2 hx hb hown (hts (.constantLong RX10 238 (-2)) (List.mem_of_getElem? (i := 6) rfl)) dX10_flow_44 ?_
    refine lv_goto (tgt := 60) hx hb dX10_flow_47 (by decide) ?_
    exact ty_lret hx hb hr hlk hG hS (by first | exact Or.inl ⟨rfl, by omega⟩ | exact Or.inr ⟨rfl, by omega⟩ | exact Or.inr (Or.inl ⟨rfl, by omega⟩) | exact Or.inr (Or.inr ⟨rfl, by omega⟩) | exact ⟨rfl, by omega⟩ | omega | trivial | rfl | (exfalso; omega)) dX10_flow_60
  · skip
    refine lv_if_ne (tgt := 16) hx hb dX10_flow_9 (by decide) (fun q => absurd rfl q) (fun _ => ?_)
    refine lv_ldc2 hx hb hown (hts (.constantLong RX10 236 (-1)) (List.mem_of_getElem? (i := 7) rfl)) dX10_flow_12 ?_
    exact ty_lret hx hb hr hlk hG hS (by first | exact Or.inl ⟨rfl, by omega⟩ | exact Or.inr ⟨rfl, by omega⟩ | exact Or.inr (Or.inl ⟨rfl, by omega⟩) | exact Or.inr (Or.inr ⟨rfl, by omega⟩) | exact ⟨rfl, by omega⟩ | omega | trivial | rfl | (exfalso; omega)) dX10_flow_15

def uX10_gate : List Cond := .code yX10_gate cX10_gate 4 (some .int) :: ([.constantLong RX10 243 (3), .methodLink RX10 85 yX10_in, .static yX10_in, .initialized RX10, .constantLong RX10 219 (10), .fieldLink RX10 173 "RiverModelModel" "isBuilt" "Z", .code yX10_in cX10_in 6 (some .boolean)] ++ wsX100)
set_option maxRecDepth 20000 in
theorem gu_X10_gate_X10_in_85 : GoodIn uX10_gate (va_wsS RX10 85 yX10_in uX10_in) := goodIn_r _ [2, 3, 4, 7] (by decide +kernel) (by decide +kernel)
set_option maxHeartbeats 4000000 in
set_option maxRecDepth 100000 in
theorem c_X10_gate (l : Launch) (D : va_G) (t : Nat → Nat) (cI cL cC : ClassId) (a0 : Nat) (a1 : Int32) (a2 : Int32) (k_a0 : t a0 = 40) : tM l yX10_gate uX10_gate 1 25 D (fF cI cL cC 0 0) (fF cI cL cC 0 0) t cI cL cC [.ref a0, .int a1, .int a2] wr0 (pI (fun r => (r = (-1) ∧ (a1.toInt < 0 ∨ 3 < a1.toInt ∨ a2.toInt < 0 ∨ 10 < a2.toInt)) ∨ (r = (-2) ∧ 0 ≤ a1.toInt ∧ a1.toInt ≤ 3 ∧ 0 ≤ a2.toInt ∧ a2.toInt ≤ 10))) := by
  refine tM.ofW (cc := cX10_gate) (maxL := 4) (ret := (some .int)) (by decide) rfl (Nat.le_of_ble_eq_true rfl) ?_
  intro p e s m below meth c hx hb hr hml hown hts hlk H locs hG hK hE hS ls hl
  have hl : lv_has ls 4 [(0, .ref a0), (1, .int a1), (2, .int a2)] := hl
  have in10 : ∀ w ∈ wsX100, w ∈ uX10_gate := fun w h => List.mem_cons_of_mem _ (List.mem_append_right _ h)
  refine lv_iload_n hx hb dX10_gate_0 rfl (lv_at hl 1 rfl) ?_
  refine lv_i2l (v := a1.toInt64) hx hb dX10_gate_1 rfl ?_
  refine lv_lconst (v := 0) hx hb dX10_gate_2 (by decide) ?_
  refine lv_ldc2 hx hb hown (hts (.constantLong RX10 243 (3)) (List.mem_of_getElem? (i := 1) rfl)) dX10_gate_3 ?_
  refine ty_calli ((W.runS (As := [.long a1.toInt64, .long 0, .long 3]) (rest := []) ⟨hx, hb, hml, hown, hts⟩ (c_in l D t cI cL cC 0 0 a1.toInt64 0 3 a1.toInt 0 3 (q_i2l _) (by decide) (by decide) ) (va_cwS 3 hts gu_X10_gate_X10_in_85 rfl rfl rfl (by decide +kernel) ⟨Nat.le_of_ble_eq_true rfl, Nat.le_of_ble_eq_true rfl⟩) (tP_S hG hE) rfl rfl hl.1 rfl (lv_room (Nat.le_of_ble_eq_true rfl)) dX10_gate_6 ⟨Nat.le_of_ble_eq_true rfl, Nat.le_of_ble_eq_true rfl⟩)) hS (fun _ h => h) (fun r_1 H locs hp_2 hG hS o_3 => ?_)
  rcases hp_2 with ⟨rfl, hc_208, hc_209⟩ | ⟨rfl, hc_210⟩
  · skip
    refine lv_if_eq (tgt := 24) hx hb dX10_gate_9 (by decide) (fun q => absurd q (by decide)) (fun _ => ?_)
    refine lv_iload_n hx hb dX10_gate_12 rfl (lv_at hl 2 rfl) ?_
    refine lv_pc (pc2 := 13) rfl ?_
    refine lv_i2l (v := a2.toInt64) hx hb dX10_gate_13 rfl ?_
    refine lv_lconst (v := 0) hx hb dX10_gate_14 (by decide) ?_
    refine lv_ldc2 hx hb hown (hts (.constantLong RX10 219 (10)) (List.mem_of_getElem? (i := 5) rfl)) dX10_gate_15 ?_
    refine ty_calli ((W.runS (As := [.long a2.toInt64, .long 0, .long 10]) (rest := []) ⟨hx, hb, hml, hown, hts⟩ (c_in l D t cI cL cC 0 0 a2.toInt64 0 10 a2.toInt 0 10 (q_i2l _) (by decide) (by decide) ) (va_cwS 3 hts gu_X10_gate_X10_in_85 rfl rfl rfl (by decide +kernel) ⟨Nat.le_of_ble_eq_true rfl, Nat.le_of_ble_eq_true rfl⟩) (tP_S hG hE) rfl rfl hl.1 rfl (lv_room (Nat.le_of_ble_eq_true rfl)) dX10_gate_18 ⟨Nat.le_of_ble_eq_true rfl, Nat.le_of_ble_eq_true rfl⟩)) hS (fun _ h => h) (fun r_4 H locs hp_5 hG hS o_6 => ?_)
    rcases hp_5 with ⟨rfl, hc_211, hc_212⟩ | ⟨rfl, hc_213⟩
    · skip
      refine lv_if_ne (tgt := 26) hx hb dX10_gate_21 (by decide) (fun _ => ?_) (fun q => absurd q (by decide))
      refine lv_aload_n hx hb dX10_gate_26 rfl (lv_at hl 0 rfl) ?_
      obtain ⟨r_7, r_9, r_11, r_13, r_15, r_17, r_19, r_21, r_23, r_25, r_27, r_29, r_31, r_33, r_35, r_37, r_39, r_41, r_43, r_45, r_47, v_49, v_50, v_51, v_52, v_53, r_54, v_56, r_57, at_59, h_8, h_10, h_12, h_14, h_16, h_18, h_20, h_22, h_24, h_26, h_28, h_30, h_32, h_34, h_36, h_38, h_40, h_42, h_44, h_46, h_48, h_55, h_58⟩ := fF_o40 hG k_a0
      refine va_get (D := D) (ci := 9) (v := .int 0) (C := RX10) (T := TX10) (N := 36) hx hb hts in10 hown hK (va_one at_59) 0 rfl rfl 2 (by decide) (hts (.fieldLink RX10 173 "RiverModelModel" "isBuilt" "Z") (List.mem_of_getElem? (i := 6) rfl)) (fun _ h9 => h9) rfl dX10_gate_27 ?_
      refine lv_if_eq (tgt := 43) hx hb dX10_gate_30 (by decide) (fun _ => ?_) (fun q => absurd (by decide) q)
      refine lv_pc (pc2 := 43) rfl ?_
      refine lv_bipush (v := (-2)) hx hb dX10_gate_43 (by decide) ?_
      exact ty_iret hx hb hr hlk hG hS (by first | exact Or.inl ⟨rfl, by omega⟩ | exact Or.inr ⟨rfl, by omega⟩ | exact Or.inr (Or.inl ⟨rfl, by omega⟩) | exact Or.inr (Or.inr ⟨rfl, by omega⟩) | exact ⟨rfl, by omega⟩ | omega | trivial | rfl | (exfalso; omega)) dX10_gate_45
    · skip
      refine lv_if_ne (tgt := 26) hx hb dX10_gate_21 (by decide) (fun q => absurd rfl q) (fun _ => ?_)
      refine lv_iconst (v := (-1)) hx hb dX10_gate_24 (by decide) ?_
      exact ty_iret hx hb hr hlk hG hS (by first | exact Or.inl ⟨rfl, by omega⟩ | exact Or.inr ⟨rfl, by omega⟩ | exact Or.inr (Or.inl ⟨rfl, by omega⟩) | exact Or.inr (Or.inr ⟨rfl, by omega⟩) | exact ⟨rfl, by omega⟩ | omega | trivial | rfl | (exfalso; omega)) dX10_gate_25
  · skip
    refine lv_if_eq (tgt := 24) hx hb dX10_gate_9 (by decide) (fun _ => ?_) (fun q => absurd (by decide) q)
    refine lv_iconst (v := (-1)) hx hb dX10_gate_24 (by decide) ?_
    exact ty_iret hx hb hr hlk hG hS (by first | exact Or.inl ⟨rfl, by omega⟩ | exact Or.inr ⟨rfl, by omega⟩ | exact Or.inr (Or.inl ⟨rfl, by omega⟩) | exact Or.inr (Or.inr ⟨rfl, by omega⟩) | exact ⟨rfl, by omega⟩ | omega | trivial | rfl | (exfalso; omega)) dX10_gate_25

def uX10_book : List Cond := .code yX10_book cX10_book 9 (some .long) :: ([.constantLong RX10 196 (5), .methodLink RX10 85 yX10_in, .static yX10_in, .initialized RX10, .fieldLink RX10 173 "RiverModelModel" "isBuilt" "Z", .constantLong RX10 238 (-2), .constantLong RX10 236 (-1), .code yX10_in cX10_in 6 (some .boolean)] ++ wsX100)
set_option maxRecDepth 20000 in
theorem gu_X10_book_X10_in_85 : GoodIn uX10_book (va_wsS RX10 85 yX10_in uX10_in) := goodIn_r _ [2, 3, 4, 8] (by decide +kernel) (by decide +kernel)
set_option maxHeartbeats 4000000 in
set_option maxRecDepth 100000 in
theorem c_X10_book (l : Launch) (D : va_G) (t : Nat → Nat) (cI cL cC : ClassId) (a0 : Nat) (a1 : Int32) (k_a0 : t a0 = 40) : tM l yX10_book uX10_book 1 25 D (fF cI cL cC 0 0) (fF cI cL cC 0 0) t cI cL cC [.ref a0, .int a1] wr0 (pL (fun r => (r = (-1) ∧ (a1.toInt < 0 ∨ 5 < a1.toInt)) ∨ (r = (-2) ∧ 0 ≤ a1.toInt ∧ a1.toInt ≤ 5))) := by
  refine tM.ofW (cc := cX10_book) (maxL := 9) (ret := (some .long)) (by decide) rfl (Nat.le_of_ble_eq_true rfl) ?_
  intro p e s m below meth c hx hb hr hml hown hts hlk H locs hG hK hE hS ls hl
  have hl : lv_has ls 9 [(0, .ref a0), (1, .int a1)] := hl
  have in10 : ∀ w ∈ wsX100, w ∈ uX10_book := fun w h => List.mem_cons_of_mem _ (List.mem_append_right _ h)
  refine lv_iload_n hx hb dX10_book_0 rfl (lv_at hl 1 rfl) ?_
  refine lv_i2l (v := a1.toInt64) hx hb dX10_book_1 rfl ?_
  refine lv_lconst (v := 0) hx hb dX10_book_2 (by decide) ?_
  refine lv_ldc2 hx hb hown (hts (.constantLong RX10 196 (5)) (List.mem_of_getElem? (i := 1) rfl)) dX10_book_3 ?_
  refine ty_calli ((W.runS (As := [.long a1.toInt64, .long 0, .long 5]) (rest := []) ⟨hx, hb, hml, hown, hts⟩ (c_in l D t cI cL cC 0 0 a1.toInt64 0 5 a1.toInt 0 5 (q_i2l _) (by decide) (by decide) ) (va_cwS 3 hts gu_X10_book_X10_in_85 rfl rfl rfl (by decide +kernel) ⟨Nat.le_of_ble_eq_true rfl, Nat.le_of_ble_eq_true rfl⟩) (tP_S hG hE) rfl rfl hl.1 rfl (lv_room (Nat.le_of_ble_eq_true rfl)) dX10_book_6 ⟨Nat.le_of_ble_eq_true rfl, Nat.le_of_ble_eq_true rfl⟩)) hS (fun _ h => h) (fun r_1 H locs hp_2 hG hS o_3 => ?_)
  rcases hp_2 with ⟨rfl, hc_214, hc_215⟩ | ⟨rfl, hc_216⟩
  · skip
    refine lv_if_ne (tgt := 16) hx hb dX10_book_9 (by decide) (fun _ => ?_) (fun q => absurd q (by decide))
    refine lv_aload_n hx hb dX10_book_16 rfl (lv_at hl 0 rfl) ?_
    refine lv_pc (pc2 := 17) rfl ?_
    obtain ⟨r_4, r_6, r_8, r_10, r_12, r_14, r_16, r_18, r_20, r_22, r_24, r_26, r_28, r_30, r_32, r_34, r_36, r_38, r_40, r_42, r_44, v_46, v_47, v_48, v_49, v_50, r_51, v_53, r_54, at_56, h_5, h_7, h_9, h_11, h_13, h_15, h_17, h_19, h_21, h_23, h_25, h_27, h_29, h_31, h_33, h_35, h_37, h_39, h_41, h_43, h_45, h_52, h_55⟩ := fF_o40 hG k_a0
    refine va_get (D := D) (ci := 9) (v := .int 0) (C := RX10) (T := TX10) (N := 36) hx hb hts in10 hown hK (va_one at_56) 0 rfl rfl 2 (by decide) (hts (.fieldLink RX10 173 "RiverModelModel" "isBuilt" "Z") (List.mem_of_getElem? (i := 5) rfl)) (fun _ h9 => h9) rfl dX10_book_17 ?_
    refine lv_if_ne (tgt := 27) hx hb dX10_book_20 (by decide) (fun q => absurd rfl q) (fun _ => ?_)
    refine lv_ldc2 hx hb hown (hts (.constantLong RX10 238 (-2)) (List.mem_of_getElem? (i := 6) rfl)) dX10_book_23 ?_
    exact ty_lret hx hb hr hlk hG hS (by first | exact Or.inl ⟨rfl, by omega⟩ | exact Or.inr ⟨rfl, by omega⟩ | exact Or.inr (Or.inl ⟨rfl, by omega⟩) | exact Or.inr (Or.inr ⟨rfl, by omega⟩) | exact ⟨rfl, by omega⟩ | omega | trivial | rfl | (exfalso; omega)) dX10_book_26
  · skip
    refine lv_if_ne (tgt := 16) hx hb dX10_book_9 (by decide) (fun q => absurd rfl q) (fun _ => ?_)
    refine lv_ldc2 hx hb hown (hts (.constantLong RX10 236 (-1)) (List.mem_of_getElem? (i := 7) rfl)) dX10_book_12 ?_
    exact ty_lret hx hb hr hlk hG hS (by first | exact Or.inl ⟨rfl, by omega⟩ | exact Or.inr ⟨rfl, by omega⟩ | exact Or.inr (Or.inl ⟨rfl, by omega⟩) | exact Or.inr (Or.inr ⟨rfl, by omega⟩) | exact ⟨rfl, by omega⟩ | omega | trivial | rfl | (exfalso; omega)) dX10_book_15

def uX10_gauge : List Cond := .code yX10_gauge cX10_gauge 5 (some .int) :: ([.constantLong RX10 243 (3), .methodLink RX10 85 yX10_in, .static yX10_in, .initialized RX10, .constantLong RX10 234 (15), .fieldLink RX10 173 "RiverModelModel" "isBuilt" "Z", .constantLong RX10 194 (39), .code yX10_in cX10_in 6 (some .boolean)] ++ wsX100)
set_option maxRecDepth 20000 in
theorem gu_X10_gauge_X10_in_85 : GoodIn uX10_gauge (va_wsS RX10 85 yX10_in uX10_in) := goodIn_r _ [2, 3, 4, 8] (by decide +kernel) (by decide +kernel)
set_option maxHeartbeats 4000000 in
set_option maxRecDepth 100000 in
theorem c_X10_gauge (l : Launch) (D : va_G) (t : Nat → Nat) (cI cL cC : ClassId) (a0 : Nat) (a1 : Int32) (a2 : Int32) (a3 : Int32) (k_a0 : t a0 = 40) : tM l yX10_gauge uX10_gauge 1 25 D (fF cI cL cC 0 0) (fF cI cL cC 0 0) t cI cL cC [.ref a0, .int a1, .int a2, .int a3] wr0 (pI (fun r => (r = (-1) ∧ (a1.toInt < 0 ∨ 3 < a1.toInt ∨ a2.toInt < 0 ∨ 1 < a2.toInt ∨ a3.toInt < 0 ∨ (a2.toInt = 0 ∧ 39 < a3.toInt) ∨ (a2.toInt = 1 ∧ 15 < a3.toInt))) ∨ (r = (-2) ∧ 0 ≤ a1.toInt ∧ a1.toInt ≤ 3 ∧ 0 ≤ a3.toInt ∧ ((a2.toInt = 0 ∧ a3.toInt ≤ 39) ∨ (a2.toInt = 1 ∧ a3.toInt ≤ 15))))) := by
  refine tM.ofW (cc := cX10_gauge) (maxL := 5) (ret := (some .int)) (by decide) rfl (Nat.le_of_ble_eq_true rfl) ?_
  intro p e s m below meth c hx hb hr hml hown hts hlk H locs hG hK hE hS ls hl
  have hl : lv_has ls 5 [(0, .ref a0), (1, .int a1), (2, .int a2), (3, .int a3)] := hl
  have in10 : ∀ w ∈ wsX100, w ∈ uX10_gauge := fun w h => List.mem_cons_of_mem _ (List.mem_append_right _ h)
  refine lv_iload_n hx hb dX10_gauge_0 rfl (lv_at hl 1 rfl) ?_
  refine lv_i2l (v := a1.toInt64) hx hb dX10_gauge_1 rfl ?_
  refine lv_lconst (v := 0) hx hb dX10_gauge_2 (by decide) ?_
  refine lv_ldc2 hx hb hown (hts (.constantLong RX10 243 (3)) (List.mem_of_getElem? (i := 1) rfl)) dX10_gauge_3 ?_
  refine ty_calli ((W.runS (As := [.long a1.toInt64, .long 0, .long 3]) (rest := []) ⟨hx, hb, hml, hown, hts⟩ (c_in l D t cI cL cC 0 0 a1.toInt64 0 3 a1.toInt 0 3 (q_i2l _) (by decide) (by decide) ) (va_cwS 3 hts gu_X10_gauge_X10_in_85 rfl rfl rfl (by decide +kernel) ⟨Nat.le_of_ble_eq_true rfl, Nat.le_of_ble_eq_true rfl⟩) (tP_S hG hE) rfl rfl hl.1 rfl (lv_room (Nat.le_of_ble_eq_true rfl)) dX10_gauge_6 ⟨Nat.le_of_ble_eq_true rfl, Nat.le_of_ble_eq_true rfl⟩)) hS (fun _ h => h) (fun r_1 H locs hp_2 hG hS o_3 => ?_)
  rcases hp_2 with ⟨rfl, hc_217, hc_218⟩ | ⟨rfl, hc_219⟩
  · skip
    refine lv_if_eq (tgt := 44) hx hb dX10_gauge_9 (by decide) (fun q => absurd q (by decide)) (fun _ => ?_)
    refine lv_iload_n hx hb dX10_gauge_12 rfl (lv_at hl 2 rfl) ?_
    refine lv_pc (pc2 := 13) rfl ?_
    refine lv_i2l (v := a2.toInt64) hx hb dX10_gauge_13 rfl ?_
    refine lv_lconst (v := 0) hx hb dX10_gauge_14 (by decide) ?_
    refine lv_lconst (v := 1) hx hb dX10_gauge_15 (by decide) ?_
    refine ty_calli ((W.runS (As := [.long a2.toInt64, .long 0, .long 1]) (rest := []) ⟨hx, hb, hml, hown, hts⟩ (c_in l D t cI cL cC 0 0 a2.toInt64 0 1 a2.toInt 0 1 (q_i2l _) (by decide) (by decide) ) (va_cwS 3 hts gu_X10_gauge_X10_in_85 rfl rfl rfl (by decide +kernel) ⟨Nat.le_of_ble_eq_true rfl, Nat.le_of_ble_eq_true rfl⟩) (tP_S hG hE) rfl rfl hl.1 rfl (lv_room (Nat.le_of_ble_eq_true rfl)) dX10_gauge_16 ⟨Nat.le_of_ble_eq_true rfl, Nat.le_of_ble_eq_true rfl⟩)) hS (fun _ h => h) (fun r_4 H locs hp_5 hG hS o_6 => ?_)
    rcases hp_5 with ⟨rfl, hc_220, hc_221⟩ | ⟨rfl, hc_222⟩
    · skip
      refine lv_if_eq (tgt := 44) hx hb dX10_gauge_19 (by decide) (fun q => absurd q (by decide)) (fun _ => ?_)
      refine lv_iload_n hx hb dX10_gauge_22 rfl (lv_at hl 3 rfl) ?_
      refine lv_i2l (v := a3.toInt64) hx hb dX10_gauge_23 rfl ?_
      refine lv_lconst (v := 0) hx hb dX10_gauge_24 (by decide) ?_
      refine lv_pc (pc2 := 25) rfl ?_
      refine lv_iload_n hx hb dX10_gauge_25 rfl (lv_at hl 2 rfl) ?_
      refine lv_if_ne (tgt := 35) hx hb dX10_gauge_26 (by decide) (fun c_7 => ?_) (fun c_7 => ?_)
      · skip
        have c_7 : a2.toInt ≠ 0 := q_ne c_7
        refine lv_ldc2 hx hb hown (hts (.constantLong RX10 234 (15)) (List.mem_of_getElem? (i := 5) rfl)) dX10_gauge_35 ?_
        refine ty_calli ((W.runS (As := [.long a3.toInt64, .long 0, .long 15]) (rest := []) ⟨hx, hb, hml, hown, hts⟩ (c_in l D t cI cL cC 0 0 a3.toInt64 0 15 a3.toInt 0 15 (q_i2l _) (by decide) (by decide) ) (va_cwS 3 hts gu_X10_gauge_X10_in_85 rfl rfl rfl (by decide +kernel) ⟨Nat.le_of_ble_eq_true rfl, Nat.le_of_ble_eq_true rfl⟩) (tP_S hG hE) rfl rfl hl.1 rfl (lv_room (Nat.le_of_ble_eq_true rfl)) dX10_gauge_38 ⟨Nat.le_of_ble_eq_true rfl, Nat.le_of_ble_eq_true rfl⟩)) hS (fun _ h => h) (fun r_8 H locs hp_9 hG hS o_10 => ?_)
        rcases hp_9 with ⟨rfl, hc_223, hc_224⟩ | ⟨rfl, hc_225⟩
        · skip
          refine lv_if_ne (tgt := 46) hx hb dX10_gauge_41 (by decide) (fun _ => ?_) (fun q => absurd q (by decide))
          refine lv_aload_n hx hb dX10_gauge_46 rfl (lv_at hl 0 rfl) ?_
          obtain ⟨r_11, r_13, r_15, r_17, r_19, r_21, r_23, r_25, r_27, r_29, r_31, r_33, r_35, r_37, r_39, r_41, r_43, r_45, r_47, r_49, r_51, v_53, v_54, v_55, v_56, v_57, r_58, v_60, r_61, at_63, h_12, h_14, h_16, h_18, h_20, h_22, h_24, h_26, h_28, h_30, h_32, h_34, h_36, h_38, h_40, h_42, h_44, h_46, h_48, h_50, h_52, h_59, h_62⟩ := fF_o40 hG k_a0
          refine va_get (D := D) (ci := 9) (v := .int 0) (C := RX10) (T := TX10) (N := 36) hx hb hts in10 hown hK (va_one at_63) 0 rfl rfl 2 (by decide) (hts (.fieldLink RX10 173 "RiverModelModel" "isBuilt" "Z") (List.mem_of_getElem? (i := 6) rfl)) (fun _ h9 => h9) rfl dX10_gauge_47 ?_
          refine lv_if_eq (tgt := 76) hx hb dX10_gauge_50 (by decide) (fun _ => ?_) (fun q => absurd (by decide) q)
          refine lv_pc (pc2 := 76) rfl ?_
          refine lv_bipush (v := (-2)) hx hb dX10_gauge_76 (by decide) ?_
          exact ty_iret hx hb hr hlk hG hS (by first | exact Or.inl ⟨rfl, by omega⟩ | exact Or.inr ⟨rfl, by omega⟩ | exact Or.inr (Or.inl ⟨rfl, by omega⟩) | exact Or.inr (Or.inr ⟨rfl, by omega⟩) | exact ⟨rfl, by omega⟩ | omega | trivial | rfl | (exfalso; omega)) dX10_gauge_78
        · skip
          refine lv_if_ne (tgt := 46) hx hb dX10_gauge_41 (by decide) (fun q => absurd rfl q) (fun _ => ?_)
          refine lv_iconst (v := (-1)) hx hb dX10_gauge_44 (by decide) ?_
          exact ty_iret hx hb hr hlk hG hS (by first | exact Or.inl ⟨rfl, by omega⟩ | exact Or.inr ⟨rfl, by omega⟩ | exact Or.inr (Or.inl ⟨rfl, by omega⟩) | exact Or.inr (Or.inr ⟨rfl, by omega⟩) | exact ⟨rfl, by omega⟩ | omega | trivial | rfl | (exfalso; omega)) dX10_gauge_45
      · skip
        have c_7 : a2.toInt = 0 := q_eq c_7
        refine lv_ldc2 hx hb hown (hts (.constantLong RX10 194 (39)) (List.mem_of_getElem? (i := 7) rfl)) dX10_gauge_29 ?_
        refine lv_goto (tgt := 38) hx hb dX10_gauge_32 (by decide) ?_
        refine ty_calli ((W.runS (As := [.long a3.toInt64, .long 0, .long 39]) (rest := []) ⟨hx, hb, hml, hown, hts⟩ (c_in l D t cI cL cC 0 0 a3.toInt64 0 39 a3.toInt 0 39 (q_i2l _) (by decide) (by decide) ) (va_cwS 3 hts gu_X10_gauge_X10_in_85 rfl rfl rfl (by decide +kernel) ⟨Nat.le_of_ble_eq_true rfl, Nat.le_of_ble_eq_true rfl⟩) (tP_S hG hE) rfl rfl hl.1 rfl (lv_room (Nat.le_of_ble_eq_true rfl)) dX10_gauge_38 ⟨Nat.le_of_ble_eq_true rfl, Nat.le_of_ble_eq_true rfl⟩)) hS (fun _ h => h) (fun r_64 H locs hp_65 hG hS o_66 => ?_)
        rcases hp_65 with ⟨rfl, hc_226, hc_227⟩ | ⟨rfl, hc_228⟩
        · skip
          refine lv_pc (pc2 := 41) rfl ?_
          refine lv_if_ne (tgt := 46) hx hb dX10_gauge_41 (by decide) (fun _ => ?_) (fun q => absurd q (by decide))
          refine lv_aload_n hx hb dX10_gauge_46 rfl (lv_at hl 0 rfl) ?_
          obtain ⟨r_67, r_69, r_71, r_73, r_75, r_77, r_79, r_81, r_83, r_85, r_87, r_89, r_91, r_93, r_95, r_97, r_99, r_101, r_103, r_105, r_107, v_109, v_110, v_111, v_112, v_113, r_114, v_116, r_117, at_119, h_68, h_70, h_72, h_74, h_76, h_78, h_80, h_82, h_84, h_86, h_88, h_90, h_92, h_94, h_96, h_98, h_100, h_102, h_104, h_106, h_108, h_115, h_118⟩ := fF_o40 hG k_a0
          refine va_get (D := D) (ci := 9) (v := .int 0) (C := RX10) (T := TX10) (N := 36) hx hb hts in10 hown hK (va_one at_119) 0 rfl rfl 2 (by decide) (hts (.fieldLink RX10 173 "RiverModelModel" "isBuilt" "Z") (List.mem_of_getElem? (i := 6) rfl)) (fun _ h9 => h9) rfl dX10_gauge_47 ?_
          refine lv_if_eq (tgt := 76) hx hb dX10_gauge_50 (by decide) (fun _ => ?_) (fun q => absurd (by decide) q)
          refine lv_bipush (v := (-2)) hx hb dX10_gauge_76 (by decide) ?_
          exact ty_iret hx hb hr hlk hG hS (by first | exact Or.inl ⟨rfl, by omega⟩ | exact Or.inr ⟨rfl, by omega⟩ | exact Or.inr (Or.inl ⟨rfl, by omega⟩) | exact Or.inr (Or.inr ⟨rfl, by omega⟩) | exact ⟨rfl, by omega⟩ | omega | trivial | rfl | (exfalso; omega)) dX10_gauge_78
        · skip
          refine lv_if_ne (tgt := 46) hx hb dX10_gauge_41 (by decide) (fun q => absurd rfl q) (fun _ => ?_)
          refine lv_iconst (v := (-1)) hx hb dX10_gauge_44 (by decide) ?_
          refine lv_pc (pc2 := 45) rfl ?_
          exact ty_iret hx hb hr hlk hG hS (by first | exact Or.inl ⟨rfl, by omega⟩ | exact Or.inr ⟨rfl, by omega⟩ | exact Or.inr (Or.inl ⟨rfl, by omega⟩) | exact Or.inr (Or.inr ⟨rfl, by omega⟩) | exact ⟨rfl, by omega⟩ | omega | trivial | rfl | (exfalso; omega)) dX10_gauge_45
    · skip
      refine lv_if_eq (tgt := 44) hx hb dX10_gauge_19 (by decide) (fun _ => ?_) (fun q => absurd (by decide) q)
      refine lv_iconst (v := (-1)) hx hb dX10_gauge_44 (by decide) ?_
      exact ty_iret hx hb hr hlk hG hS (by first | exact Or.inl ⟨rfl, by omega⟩ | exact Or.inr ⟨rfl, by omega⟩ | exact Or.inr (Or.inl ⟨rfl, by omega⟩) | exact Or.inr (Or.inr ⟨rfl, by omega⟩) | exact ⟨rfl, by omega⟩ | omega | trivial | rfl | (exfalso; omega)) dX10_gauge_45
  · skip
    refine lv_if_eq (tgt := 44) hx hb dX10_gauge_9 (by decide) (fun _ => ?_) (fun q => absurd (by decide) q)
    refine lv_iconst (v := (-1)) hx hb dX10_gauge_44 (by decide) ?_
    exact ty_iret hx hb hr hlk hG hS (by first | exact Or.inl ⟨rfl, by omega⟩ | exact Or.inr ⟨rfl, by omega⟩ | exact Or.inr (Or.inl ⟨rfl, by omega⟩) | exact Or.inr (Or.inr ⟨rfl, by omega⟩) | exact ⟨rfl, by omega⟩ | omega | trivial | rfl | (exfalso; omega)) dX10_gauge_45

def uX10_reads : List Cond := .code yX10_reads cX10_reads 2 (some .long) :: ([.constantLong RX10 243 (3), .methodLink RX10 85 yX10_in, .static yX10_in, .initialized RX10, .methodLink RX10 248 yX10_isSet, .instanceMethod yX10_isSet, .selects RX10 yX10_isSet yX10_isSet, .constantLong RX10 238 (-2), .constantLong RX10 236 (-1), .code yX10_in cX10_in 6 (some .boolean), .code yX10_isSet cX10_isSet 2 (some .boolean), .fieldLink RX10 173 "RiverModelModel" "isBuilt" "Z"] ++ wsX100)
set_option maxRecDepth 20000 in
theorem gu_X10_reads_X10_in_85 : GoodIn uX10_reads (va_wsS RX10 85 yX10_in uX10_in) := goodIn_r _ [2, 3, 4, 10] (by decide +kernel) (by decide +kernel)
set_option maxRecDepth 20000 in
theorem gu_X10_reads_X10_isSet_248 : GoodIn uX10_reads (wsV RX10 248 RX10 yX10_isSet uX10_isSet) := goodIn_r _ [5, 6, 7, 4, 11, 12, 13, 14, 15, 16, 17, 18, 19, 20, 21, 22, 23, 24, 25, 26, 27, 28, 29, 30, 31, 32, 33, 34, 35, 36, 37, 38, 39, 40, 41, 42, 43, 44, 45, 46, 47, 48] (by decide +kernel) (by decide +kernel)
set_option maxHeartbeats 4000000 in
set_option maxRecDepth 100000 in
theorem c_X10_reads (l : Launch) (D : va_G) (t : Nat → Nat) (cI cL cC : ClassId) (a0 : Nat) (a1 : Int32) (k_a0 : t a0 = 40) : tM l yX10_reads uX10_reads 1 25 D (fF cI cL cC 0 0) (fF cI cL cC 0 0) t cI cL cC [.ref a0, .int a1] wr0 (pL (fun r => (r = (-1) ∧ (a1.toInt < 0 ∨ 3 < a1.toInt)) ∨ (r = (-2) ∧ 0 ≤ a1.toInt ∧ a1.toInt ≤ 3))) := by
  refine tM.ofW (cc := cX10_reads) (maxL := 2) (ret := (some .long)) (by decide) rfl (Nat.le_of_ble_eq_true rfl) ?_
  intro p e s m below meth c hx hb hr hml hown hts hlk H locs hG hK hE hS ls hl
  have hl : lv_has ls 2 [(0, .ref a0), (1, .int a1)] := hl
  skip
  refine lv_iload_n hx hb dX10_reads_0 rfl (lv_at hl 1 rfl) ?_
  refine lv_i2l (v := a1.toInt64) hx hb dX10_reads_1 rfl ?_
  refine lv_lconst (v := 0) hx hb dX10_reads_2 (by decide) ?_
  refine lv_ldc2 hx hb hown (hts (.constantLong RX10 243 (3)) (List.mem_of_getElem? (i := 1) rfl)) dX10_reads_3 ?_
  refine ty_calli ((W.runS (As := [.long a1.toInt64, .long 0, .long 3]) (rest := []) ⟨hx, hb, hml, hown, hts⟩ (c_in l D t cI cL cC 0 0 a1.toInt64 0 3 a1.toInt 0 3 (q_i2l _) (by decide) (by decide) ) (va_cwS 3 hts gu_X10_reads_X10_in_85 rfl rfl rfl (by decide +kernel) ⟨Nat.le_of_ble_eq_true rfl, Nat.le_of_ble_eq_true rfl⟩) (tP_S hG hE) rfl rfl hl.1 rfl (lv_room (Nat.le_of_ble_eq_true rfl)) dX10_reads_6 ⟨Nat.le_of_ble_eq_true rfl, Nat.le_of_ble_eq_true rfl⟩)) hS (fun _ h => h) (fun r_1 H locs hp_2 hG hS o_3 => ?_)
  rcases hp_2 with ⟨rfl, hc_229, hc_230⟩ | ⟨rfl, hc_231⟩
  · skip
    refine lv_if_ne (tgt := 16) hx hb dX10_reads_9 (by decide) (fun _ => ?_) (fun q => absurd q (by decide))
    refine lv_aload_n hx hb dX10_reads_16 rfl (lv_at hl 0 rfl) ?_
    refine lv_pc (pc2 := 17) rfl ?_
    refine lv_iload_n hx hb dX10_reads_17 rfl (lv_at hl 1 rfl) ?_
    obtain ⟨r_4, r_6, r_8, r_10, r_12, r_14, r_16, r_18, r_20, r_22, r_24, r_26, r_28, r_30, r_32, r_34, r_36, r_38, r_40, r_42, r_44, v_46, v_47, v_48, v_49, v_50, r_51, v_53, r_54, at_56, h_5, h_7, h_9, h_11, h_13, h_15, h_17, h_19, h_21, h_23, h_25, h_27, h_29, h_31, h_33, h_35, h_37, h_39, h_41, h_43, h_45, h_52, h_55⟩ := fF_o40 hG k_a0
    refine ty_calli ((W.runV (As := [.int a1]) (rest := []) ⟨hx, hb, hml, hown, hts⟩ (c_X10_isSet l D t cI cL cC a0 a1 k_a0) (cwV 1 hts gu_X10_reads_X10_isSet_248 rfl rfl rfl (by decide +kernel) ⟨Nat.le_of_ble_eq_true rfl, Nat.le_of_ble_eq_true rfl⟩) (tP_V hG hE at_56 rfl) rfl rfl hl.1 rfl (lv_room (Nat.le_of_ble_eq_true rfl)) dX10_reads_18 ⟨Nat.le_of_ble_eq_true rfl, Nat.le_of_ble_eq_true rfl⟩)) hS (fun _ h => h) (fun r_57 H locs hp_58 hG hS o_59 => ?_)
    have at_56 := va_at.keptC at_56 o_59 k_a0 rfl
    rcases hp_58 with rfl
    refine lv_if_eq (tgt := 37) hx hb dX10_reads_21 (by decide) (fun _ => ?_) (fun q => absurd (by decide) q)
    refine lv_ldc2 hx hb hown (hts (.constantLong RX10 238 (-2)) (List.mem_of_getElem? (i := 8) rfl)) dX10_reads_37 ?_
    refine lv_goto (tgt := 48) hx hb dX10_reads_40 (by decide) ?_
    exact ty_lret hx hb hr hlk hG hS (by first | exact Or.inl ⟨rfl, by omega⟩ | exact Or.inr ⟨rfl, by omega⟩ | exact Or.inr (Or.inl ⟨rfl, by omega⟩) | exact Or.inr (Or.inr ⟨rfl, by omega⟩) | exact ⟨rfl, by omega⟩ | omega | trivial | rfl | (exfalso; omega)) dX10_reads_48
  · skip
    refine lv_if_ne (tgt := 16) hx hb dX10_reads_9 (by decide) (fun q => absurd rfl q) (fun _ => ?_)
    refine lv_ldc2 hx hb hown (hts (.constantLong RX10 236 (-1)) (List.mem_of_getElem? (i := 9) rfl)) dX10_reads_12 ?_
    refine lv_pc (pc2 := 15) rfl ?_
    exact ty_lret hx hb hr hlk hG hS (by first | exact Or.inl ⟨rfl, by omega⟩ | exact Or.inr ⟨rfl, by omega⟩ | exact Or.inr (Or.inl ⟨rfl, by omega⟩) | exact Or.inr (Or.inr ⟨rfl, by omega⟩) | exact ⟨rfl, by omega⟩ | omega | trivial | rfl | (exfalso; omega)) dX10_reads_15

def uX10_see : List Cond := .code yX10_see cX10_see 5 (some .int) :: ([.constantLong RX10 243 (3), .methodLink RX10 85 yX10_in, .static yX10_in, .initialized RX10, .constantLong RX10 198 (95), .constantLong RX10 236 (-1), .constantLong RX10 254 (10000000), .methodLink RX10 248 yX10_isSet, .instanceMethod yX10_isSet, .selects RX10 yX10_isSet yX10_isSet, .code yX10_in cX10_in 6 (some .boolean), .code yX10_isSet cX10_isSet 2 (some .boolean), .fieldLink RX10 173 "RiverModelModel" "isBuilt" "Z"] ++ wsX100)
set_option maxRecDepth 20000 in
theorem gu_X10_see_X10_in_85 : GoodIn uX10_see (va_wsS RX10 85 yX10_in uX10_in) := goodIn_r _ [2, 3, 4, 11] (by decide +kernel) (by decide +kernel)
set_option maxRecDepth 20000 in
theorem gu_X10_see_X10_isSet_248 : GoodIn uX10_see (wsV RX10 248 RX10 yX10_isSet uX10_isSet) := goodIn_r _ [8, 9, 10, 4, 12, 13, 14, 15, 16, 17, 18, 19, 20, 21, 22, 23, 24, 25, 26, 27, 28, 29, 30, 31, 32, 33, 34, 35, 36, 37, 38, 39, 40, 41, 42, 43, 44, 45, 46, 47, 48, 49] (by decide +kernel) (by decide +kernel)
set_option maxHeartbeats 4000000 in
set_option maxRecDepth 100000 in
theorem c_X10_see (l : Launch) (D : va_G) (t : Nat → Nat) (cI cL cC : ClassId) (a0 : Nat) (a1 : Int32) (a2 : Int32) (a3 : Int32) (k_a0 : t a0 = 40) : tM l yX10_see uX10_see 1 25 D (fF cI cL cC 0 0) (fF cI cL cC 0 0) t cI cL cC [.ref a0, .int a1, .int a2, .int a3] wr0 (pI (fun r => (r = (-100) ∧ (a1.toInt < 0 ∨ 3 < a1.toInt ∨ a2.toInt < 0 ∨ 95 < a2.toInt ∨ a3.toInt < (-1) ∨ 10000000 < a3.toInt)) ∨ (r = (-102) ∧ 0 ≤ a1.toInt ∧ a1.toInt ≤ 3 ∧ 0 ≤ a2.toInt ∧ a2.toInt ≤ 95 ∧ (-1) ≤ a3.toInt ∧ a3.toInt ≤ 10000000))) := by
  refine tM.ofW (cc := cX10_see) (maxL := 5) (ret := (some .int)) (by decide) rfl (Nat.le_of_ble_eq_true rfl) ?_
  intro p e s m below meth c hx hb hr hml hown hts hlk H locs hG hK hE hS ls hl
  have hl : lv_has ls 5 [(0, .ref a0), (1, .int a1), (2, .int a2), (3, .int a3)] := hl
  skip
  refine lv_iload_n hx hb dX10_see_0 rfl (lv_at hl 1 rfl) ?_
  refine lv_i2l (v := a1.toInt64) hx hb dX10_see_1 rfl ?_
  refine lv_lconst (v := 0) hx hb dX10_see_2 (by decide) ?_
  refine lv_ldc2 hx hb hown (hts (.constantLong RX10 243 (3)) (List.mem_of_getElem? (i := 1) rfl)) dX10_see_3 ?_
  refine ty_calli ((W.runS (As := [.long a1.toInt64, .long 0, .long 3]) (rest := []) ⟨hx, hb, hml, hown, hts⟩ (c_in l D t cI cL cC 0 0 a1.toInt64 0 3 a1.toInt 0 3 (q_i2l _) (by decide) (by decide) ) (va_cwS 3 hts gu_X10_see_X10_in_85 rfl rfl rfl (by decide +kernel) ⟨Nat.le_of_ble_eq_true rfl, Nat.le_of_ble_eq_true rfl⟩) (tP_S hG hE) rfl rfl hl.1 rfl (lv_room (Nat.le_of_ble_eq_true rfl)) dX10_see_6 ⟨Nat.le_of_ble_eq_true rfl, Nat.le_of_ble_eq_true rfl⟩)) hS (fun _ h => h) (fun r_1 H locs hp_2 hG hS o_3 => ?_)
  rcases hp_2 with ⟨rfl, hc_232, hc_233⟩ | ⟨rfl, hc_234⟩
  · skip
    refine lv_if_eq (tgt := 38) hx hb dX10_see_9 (by decide) (fun q => absurd q (by decide)) (fun _ => ?_)
    refine lv_iload_n hx hb dX10_see_12 rfl (lv_at hl 2 rfl) ?_
    refine lv_pc (pc2 := 13) rfl ?_
    refine lv_i2l (v := a2.toInt64) hx hb dX10_see_13 rfl ?_
    refine lv_lconst (v := 0) hx hb dX10_see_14 (by decide) ?_
    refine lv_ldc2 hx hb hown (hts (.constantLong RX10 198 (95)) (List.mem_of_getElem? (i := 5) rfl)) dX10_see_15 ?_
    refine ty_calli ((W.runS (As := [.long a2.toInt64, .long 0, .long 95]) (rest := []) ⟨hx, hb, hml, hown, hts⟩ (c_in l D t cI cL cC 0 0 a2.toInt64 0 95 a2.toInt 0 95 (q_i2l _) (by decide) (by decide) ) (va_cwS 3 hts gu_X10_see_X10_in_85 rfl rfl rfl (by decide +kernel) ⟨Nat.le_of_ble_eq_true rfl, Nat.le_of_ble_eq_true rfl⟩) (tP_S hG hE) rfl rfl hl.1 rfl (lv_room (Nat.le_of_ble_eq_true rfl)) dX10_see_18 ⟨Nat.le_of_ble_eq_true rfl, Nat.le_of_ble_eq_true rfl⟩)) hS (fun _ h => h) (fun r_4 H locs hp_5 hG hS o_6 => ?_)
    rcases hp_5 with ⟨rfl, hc_235, hc_236⟩ | ⟨rfl, hc_237⟩
    · skip
      refine lv_if_eq (tgt := 38) hx hb dX10_see_21 (by decide) (fun q => absurd q (by decide)) (fun _ => ?_)
      refine lv_iload_n hx hb dX10_see_24 rfl (lv_at hl 3 rfl) ?_
      refine lv_i2l (v := a3.toInt64) hx hb dX10_see_25 rfl ?_
      refine lv_ldc2 hx hb hown (hts (.constantLong RX10 236 (-1)) (List.mem_of_getElem? (i := 6) rfl)) dX10_see_26 ?_
      refine lv_pc (pc2 := 29) rfl ?_
      refine lv_ldc2 hx hb hown (hts (.constantLong RX10 254 (10000000)) (List.mem_of_getElem? (i := 7) rfl)) dX10_see_29 ?_
      refine ty_calli ((W.runS (As := [.long a3.toInt64, .long (-1), .long 10000000]) (rest := []) ⟨hx, hb, hml, hown, hts⟩ (c_in l D t cI cL cC 0 0 a3.toInt64 (-1) 10000000 a3.toInt (-1) 10000000 (q_i2l _) (by decide) (by decide) ) (va_cwS 3 hts gu_X10_see_X10_in_85 rfl rfl rfl (by decide +kernel) ⟨Nat.le_of_ble_eq_true rfl, Nat.le_of_ble_eq_true rfl⟩) (tP_S hG hE) rfl rfl hl.1 rfl (lv_room (Nat.le_of_ble_eq_true rfl)) dX10_see_32 ⟨Nat.le_of_ble_eq_true rfl, Nat.le_of_ble_eq_true rfl⟩)) hS (fun _ h => h) (fun r_7 H locs hp_8 hG hS o_9 => ?_)
      rcases hp_8 with ⟨rfl, hc_238, hc_239⟩ | ⟨rfl, hc_240⟩
      · skip
        refine lv_if_ne (tgt := 41) hx hb dX10_see_35 (by decide) (fun _ => ?_) (fun q => absurd q (by decide))
        refine lv_aload_n hx hb dX10_see_41 rfl (lv_at hl 0 rfl) ?_
        refine lv_iload_n hx hb dX10_see_42 rfl (lv_at hl 1 rfl) ?_
        obtain ⟨r_10, r_12, r_14, r_16, r_18, r_20, r_22, r_24, r_26, r_28, r_30, r_32, r_34, r_36, r_38, r_40, r_42, r_44, r_46, r_48, r_50, v_52, v_53, v_54, v_55, v_56, r_57, v_59, r_60, at_62, h_11, h_13, h_15, h_17, h_19, h_21, h_23, h_25, h_27, h_29, h_31, h_33, h_35, h_37, h_39, h_41, h_43, h_45, h_47, h_49, h_51, h_58, h_61⟩ := fF_o40 hG k_a0
        refine ty_calli ((W.runV (As := [.int a1]) (rest := []) ⟨hx, hb, hml, hown, hts⟩ (c_X10_isSet l D t cI cL cC a0 a1 k_a0) (cwV 1 hts gu_X10_see_X10_isSet_248 rfl rfl rfl (by decide +kernel) ⟨Nat.le_of_ble_eq_true rfl, Nat.le_of_ble_eq_true rfl⟩) (tP_V hG hE at_62 rfl) rfl rfl hl.1 rfl (lv_room (Nat.le_of_ble_eq_true rfl)) dX10_see_43 ⟨Nat.le_of_ble_eq_true rfl, Nat.le_of_ble_eq_true rfl⟩)) hS (fun _ h => h) (fun r_63 H locs hp_64 hG hS o_65 => ?_)
        have at_62 := va_at.keptC at_62 o_65 k_a0 rfl
        rcases hp_64 with rfl
        refine lv_if_ne (tgt := 52) hx hb dX10_see_46 (by decide) (fun q => absurd rfl q) (fun _ => ?_)
        refine lv_bipush (v := (-102)) hx hb dX10_see_49 (by decide) ?_
        refine lv_pc (pc2 := 51) rfl ?_
        exact ty_iret hx hb hr hlk hG hS (by first | exact Or.inl ⟨rfl, by omega⟩ | exact Or.inr ⟨rfl, by omega⟩ | exact Or.inr (Or.inl ⟨rfl, by omega⟩) | exact Or.inr (Or.inr ⟨rfl, by omega⟩) | exact ⟨rfl, by omega⟩ | omega | trivial | rfl | (exfalso; omega)) dX10_see_51
      · skip
        refine lv_if_ne (tgt := 41) hx hb dX10_see_35 (by decide) (fun q => absurd rfl q) (fun _ => ?_)
        refine lv_bipush (v := (-100)) hx hb dX10_see_38 (by decide) ?_
        exact ty_iret hx hb hr hlk hG hS (by first | exact Or.inl ⟨rfl, by omega⟩ | exact Or.inr ⟨rfl, by omega⟩ | exact Or.inr (Or.inl ⟨rfl, by omega⟩) | exact Or.inr (Or.inr ⟨rfl, by omega⟩) | exact ⟨rfl, by omega⟩ | omega | trivial | rfl | (exfalso; omega)) dX10_see_40
    · skip
      refine lv_if_eq (tgt := 38) hx hb dX10_see_21 (by decide) (fun _ => ?_) (fun q => absurd (by decide) q)
      refine lv_bipush (v := (-100)) hx hb dX10_see_38 (by decide) ?_
      exact ty_iret hx hb hr hlk hG hS (by first | exact Or.inl ⟨rfl, by omega⟩ | exact Or.inr ⟨rfl, by omega⟩ | exact Or.inr (Or.inl ⟨rfl, by omega⟩) | exact Or.inr (Or.inr ⟨rfl, by omega⟩) | exact ⟨rfl, by omega⟩ | omega | trivial | rfl | (exfalso; omega)) dX10_see_40
  · skip
    refine lv_if_eq (tgt := 38) hx hb dX10_see_9 (by decide) (fun _ => ?_) (fun q => absurd (by decide) q)
    refine lv_pc (pc2 := 38) rfl ?_
    refine lv_bipush (v := (-100)) hx hb dX10_see_38 (by decide) ?_
    exact ty_iret hx hb hr hlk hG hS (by first | exact Or.inl ⟨rfl, by omega⟩ | exact Or.inr ⟨rfl, by omega⟩ | exact Or.inr (Or.inl ⟨rfl, by omega⟩) | exact Or.inr (Or.inr ⟨rfl, by omega⟩) | exact ⟨rfl, by omega⟩ | omega | trivial | rfl | (exfalso; omega)) dX10_see_40

def uX10_knob : List Cond := .code yX10_knob cX10_knob 7 (some .int) :: ([.methodLink RX10 85 yX10_in, .static yX10_in, .initialized RX10, .constantLong RX10 194 (39), .constantLong RX10 261 (2), .constantLong RX10 99 (1000000), .constantLong RX10 263 (16), .fieldLink RX10 173 "RiverModelModel" "isBuilt" "Z", .code yX10_in cX10_in 6 (some .boolean)] ++ wsX100)
set_option maxRecDepth 20000 in
theorem gu_X10_knob_X10_in_85 : GoodIn uX10_knob (va_wsS RX10 85 yX10_in uX10_in) := goodIn_r _ [1, 2, 3, 9] (by decide +kernel) (by decide +kernel)
set_option maxHeartbeats 4000000 in
set_option maxRecDepth 100000 in
theorem c_X10_knob (l : Launch) (D : va_G) (t : Nat → Nat) (cI cL cC : ClassId) (a0 : Nat) (a1 : Int32) (a2 : Int32) (a3 : Int32) (a4 : Int32) (a5 : Int32) (a6 : Int32) (k_a0 : t a0 = 40) : tM l yX10_knob uX10_knob 1 25 D (fF cI cL cC 0 0) (fF cI cL cC 0 0) t cI cL cC [.ref a0, .int a1, .int a2, .int a3, .int a4, .int a5, .int a6] wr0 (pI (fun r => (r = (-1) ∧ (a1.toInt < 0 ∨ 1 < a1.toInt ∨ a2.toInt < 0 ∨ 39 < a2.toInt ∨ a3.toInt < 0 ∨ 2 < a3.toInt ∨ a4.toInt < 0 ∨ 1000000 < a4.toInt ∨ a5.toInt < 1 ∨ 1000000 < a5.toInt ∨ a6.toInt < 0 ∨ 16 < a6.toInt)) ∨ (r = (-2) ∧ 0 ≤ a1.toInt ∧ a1.toInt ≤ 1 ∧ 0 ≤ a2.toInt ∧ a2.toInt ≤ 39 ∧ 0 ≤ a3.toInt ∧ a3.toInt ≤ 2 ∧ 0 ≤ a4.toInt ∧ a4.toInt ≤ 1000000 ∧ 1 ≤ a5.toInt ∧ a5.toInt ≤ 1000000 ∧ 0 ≤ a6.toInt ∧ a6.toInt ≤ 16))) := by
  refine tM.ofW (cc := cX10_knob) (maxL := 7) (ret := (some .int)) (by decide) rfl (Nat.le_of_ble_eq_true rfl) ?_
  intro p e s m below meth c hx hb hr hml hown hts hlk H locs hG hK hE hS ls hl
  have hl : lv_has ls 7 [(0, .ref a0), (1, .int a1), (2, .int a2), (3, .int a3), (4, .int a4), (5, .int a5), (6, .int a6)] := hl
  have in10 : ∀ w ∈ wsX100, w ∈ uX10_knob := fun w h => List.mem_cons_of_mem _ (List.mem_append_right _ h)
  refine lv_iload_n hx hb dX10_knob_0 rfl (lv_at hl 1 rfl) ?_
  refine lv_i2l (v := a1.toInt64) hx hb dX10_knob_1 rfl ?_
  refine lv_lconst (v := 0) hx hb dX10_knob_2 (by decide) ?_
  refine lv_lconst (v := 1) hx hb dX10_knob_3 (by decide) ?_
  refine ty_calli ((W.runS (As := [.long a1.toInt64, .long 0, .long 1]) (rest := []) ⟨hx, hb, hml, hown, hts⟩ (c_in l D t cI cL cC 0 0 a1.toInt64 0 1 a1.toInt 0 1 (q_i2l _) (by decide) (by decide) ) (va_cwS 3 hts gu_X10_knob_X10_in_85 rfl rfl rfl (by decide +kernel) ⟨Nat.le_of_ble_eq_true rfl, Nat.le_of_ble_eq_true rfl⟩) (tP_S hG hE) rfl rfl hl.1 rfl (lv_room (Nat.le_of_ble_eq_true rfl)) dX10_knob_4 ⟨Nat.le_of_ble_eq_true rfl, Nat.le_of_ble_eq_true rfl⟩)) hS (fun _ h => h) (fun r_1 H locs hp_2 hG hS o_3 => ?_)
  rcases hp_2 with ⟨rfl, hc_241, hc_242⟩ | ⟨rfl, hc_243⟩
  · skip
    refine lv_if_eq (tgt := 73) hx hb dX10_knob_7 (by decide) (fun q => absurd q (by decide)) (fun _ => ?_)
    refine lv_iload_n hx hb dX10_knob_10 rfl (lv_at hl 2 rfl) ?_
    refine lv_pc (pc2 := 11) rfl ?_
    refine lv_i2l (v := a2.toInt64) hx hb dX10_knob_11 rfl ?_
    refine lv_lconst (v := 0) hx hb dX10_knob_12 (by decide) ?_
    refine lv_ldc2 hx hb hown (hts (.constantLong RX10 194 (39)) (List.mem_of_getElem? (i := 4) rfl)) dX10_knob_13 ?_
    refine ty_calli ((W.runS (As := [.long a2.toInt64, .long 0, .long 39]) (rest := []) ⟨hx, hb, hml, hown, hts⟩ (c_in l D t cI cL cC 0 0 a2.toInt64 0 39 a2.toInt 0 39 (q_i2l _) (by decide) (by decide) ) (va_cwS 3 hts gu_X10_knob_X10_in_85 rfl rfl rfl (by decide +kernel) ⟨Nat.le_of_ble_eq_true rfl, Nat.le_of_ble_eq_true rfl⟩) (tP_S hG hE) rfl rfl hl.1 rfl (lv_room (Nat.le_of_ble_eq_true rfl)) dX10_knob_16 ⟨Nat.le_of_ble_eq_true rfl, Nat.le_of_ble_eq_true rfl⟩)) hS (fun _ h => h) (fun r_4 H locs hp_5 hG hS o_6 => ?_)
    rcases hp_5 with ⟨rfl, hc_244, hc_245⟩ | ⟨rfl, hc_246⟩
    · skip
      refine lv_if_eq (tgt := 73) hx hb dX10_knob_19 (by decide) (fun q => absurd q (by decide)) (fun _ => ?_)
      refine lv_iload_n hx hb dX10_knob_22 rfl (lv_at hl 3 rfl) ?_
      refine lv_i2l (v := a3.toInt64) hx hb dX10_knob_23 rfl ?_
      refine lv_lconst (v := 0) hx hb dX10_knob_24 (by decide) ?_
      refine lv_pc (pc2 := 25) rfl ?_
      refine lv_ldc2 hx hb hown (hts (.constantLong RX10 261 (2)) (List.mem_of_getElem? (i := 5) rfl)) dX10_knob_25 ?_
      refine ty_calli ((W.runS (As := [.long a3.toInt64, .long 0, .long 2]) (rest := []) ⟨hx, hb, hml, hown, hts⟩ (c_in l D t cI cL cC 0 0 a3.toInt64 0 2 a3.toInt 0 2 (q_i2l _) (by decide) (by decide) ) (va_cwS 3 hts gu_X10_knob_X10_in_85 rfl rfl rfl (by decide +kernel) ⟨Nat.le_of_ble_eq_true rfl, Nat.le_of_ble_eq_true rfl⟩) (tP_S hG hE) rfl rfl hl.1 rfl (lv_room (Nat.le_of_ble_eq_true rfl)) dX10_knob_28 ⟨Nat.le_of_ble_eq_true rfl, Nat.le_of_ble_eq_true rfl⟩)) hS (fun _ h => h) (fun r_7 H locs hp_8 hG hS o_9 => ?_)
      rcases hp_8 with ⟨rfl, hc_247, hc_248⟩ | ⟨rfl, hc_249⟩
      · skip
        refine lv_if_eq (tgt := 73) hx hb dX10_knob_31 (by decide) (fun q => absurd q (by decide)) (fun _ => ?_)
        refine lv_iload hx hb dX10_knob_34 (lv_at hl 4 rfl) ?_
        refine lv_i2l (v := a4.toInt64) hx hb dX10_knob_36 rfl ?_
        refine lv_lconst (v := 0) hx hb dX10_knob_37 (by decide) ?_
        refine lv_ldc2 hx hb hown (hts (.constantLong RX10 99 (1000000)) (List.mem_of_getElem? (i := 6) rfl)) dX10_knob_38 ?_
        refine ty_calli ((W.runS (As := [.long a4.toInt64, .long 0, .long 1000000]) (rest := []) ⟨hx, hb, hml, hown, hts⟩ (c_in l D t cI cL cC 0 0 a4.toInt64 0 1000000 a4.toInt 0 1000000 (q_i2l _) (by decide) (by decide) ) (va_cwS 3 hts gu_X10_knob_X10_in_85 rfl rfl rfl (by decide +kernel) ⟨Nat.le_of_ble_eq_true rfl, Nat.le_of_ble_eq_true rfl⟩) (tP_S hG hE) rfl rfl hl.1 rfl (lv_room (Nat.le_of_ble_eq_true rfl)) dX10_knob_41 ⟨Nat.le_of_ble_eq_true rfl, Nat.le_of_ble_eq_true rfl⟩)) hS (fun _ h => h) (fun r_10 H locs hp_11 hG hS o_12 => ?_)
        rcases hp_11 with ⟨rfl, hc_250, hc_251⟩ | ⟨rfl, hc_252⟩
        · skip
          refine lv_pc (pc2 := 44) rfl ?_
          refine lv_if_eq (tgt := 73) hx hb dX10_knob_44 (by decide) (fun q => absurd q (by decide)) (fun _ => ?_)
          refine lv_iload hx hb dX10_knob_47 (lv_at hl 5 rfl) ?_
          refine lv_i2l (v := a5.toInt64) hx hb dX10_knob_49 rfl ?_
          refine lv_lconst (v := 1) hx hb dX10_knob_50 (by decide) ?_
          refine lv_ldc2 hx hb hown (hts (.constantLong RX10 99 (1000000)) (List.mem_of_getElem? (i := 6) rfl)) dX10_knob_51 ?_
          refine ty_calli ((W.runS (As := [.long a5.toInt64, .long 1, .long 1000000]) (rest := []) ⟨hx, hb, hml, hown, hts⟩ (c_in l D t cI cL cC 0 0 a5.toInt64 1 1000000 a5.toInt 1 1000000 (q_i2l _) (by decide) (by decide) ) (va_cwS 3 hts gu_X10_knob_X10_in_85 rfl rfl rfl (by decide +kernel) ⟨Nat.le_of_ble_eq_true rfl, Nat.le_of_ble_eq_true rfl⟩) (tP_S hG hE) rfl rfl hl.1 rfl (lv_room (Nat.le_of_ble_eq_true rfl)) dX10_knob_54 ⟨Nat.le_of_ble_eq_true rfl, Nat.le_of_ble_eq_true rfl⟩)) hS (fun _ h => h) (fun r_13 H locs hp_14 hG hS o_15 => ?_)
          rcases hp_14 with ⟨rfl, hc_253, hc_254⟩ | ⟨rfl, hc_255⟩
          · skip
            refine lv_if_eq (tgt := 73) hx hb dX10_knob_57 (by decide) (fun q => absurd q (by decide)) (fun _ => ?_)
            refine lv_iload hx hb dX10_knob_60 (lv_at hl 6 rfl) ?_
            refine lv_pc (pc2 := 62) rfl ?_
            refine lv_i2l (v := a6.toInt64) hx hb dX10_knob_62 rfl ?_
            refine lv_lconst (v := 0) hx hb dX10_knob_63 (by decide) ?_
            refine lv_ldc2 hx hb hown (hts (.constantLong RX10 263 (16)) (List.mem_of_getElem? (i := 7) rfl)) dX10_knob_64 ?_
            refine ty_calli ((W.runS (As := [.long a6.toInt64, .long 0, .long 16]) (rest := []) ⟨hx, hb, hml, hown, hts⟩ (c_in l D t cI cL cC 0 0 a6.toInt64 0 16 a6.toInt 0 16 (q_i2l _) (by decide) (by decide) ) (va_cwS 3 hts gu_X10_knob_X10_in_85 rfl rfl rfl (by decide +kernel) ⟨Nat.le_of_ble_eq_true rfl, Nat.le_of_ble_eq_true rfl⟩) (tP_S hG hE) rfl rfl hl.1 rfl (lv_room (Nat.le_of_ble_eq_true rfl)) dX10_knob_67 ⟨Nat.le_of_ble_eq_true rfl, Nat.le_of_ble_eq_true rfl⟩)) hS (fun _ h => h) (fun r_16 H locs hp_17 hG hS o_18 => ?_)
            rcases hp_17 with ⟨rfl, hc_256, hc_257⟩ | ⟨rfl, hc_258⟩
            · skip
              refine lv_if_ne (tgt := 75) hx hb dX10_knob_70 (by decide) (fun _ => ?_) (fun q => absurd q (by decide))
              refine lv_aload_n hx hb dX10_knob_75 rfl (lv_at hl 0 rfl) ?_
              obtain ⟨r_19, r_21, r_23, r_25, r_27, r_29, r_31, r_33, r_35, r_37, r_39, r_41, r_43, r_45, r_47, r_49, r_51, r_53, r_55, r_57, r_59, v_61, v_62, v_63, v_64, v_65, r_66, v_68, r_69, at_71, h_20, h_22, h_24, h_26, h_28, h_30, h_32, h_34, h_36, h_38, h_40, h_42, h_44, h_46, h_48, h_50, h_52, h_54, h_56, h_58, h_60, h_67, h_70⟩ := fF_o40 hG k_a0
              refine va_get (D := D) (ci := 9) (v := .int 0) (C := RX10) (T := TX10) (N := 36) hx hb hts in10 hown hK (va_one at_71) 0 rfl rfl 2 (by decide) (hts (.fieldLink RX10 173 "RiverModelModel" "isBuilt" "Z") (List.mem_of_getElem? (i := 8) rfl)) (fun _ h9 => h9) rfl dX10_knob_76 ?_
              refine lv_if_eq (tgt := 103) hx hb dX10_knob_79 (by decide) (fun _ => ?_) (fun q => absurd (by decide) q)
              refine lv_pc (pc2 := 103) rfl ?_
              refine lv_bipush (v := (-2)) hx hb dX10_knob_103 (by decide) ?_
              exact ty_iret hx hb hr hlk hG hS (by first | exact Or.inl ⟨rfl, by omega⟩ | exact Or.inr ⟨rfl, by omega⟩ | exact Or.inr (Or.inl ⟨rfl, by omega⟩) | exact Or.inr (Or.inr ⟨rfl, by omega⟩) | exact ⟨rfl, by omega⟩ | omega | trivial | rfl | (exfalso; omega)) dX10_knob_105
            · skip
              refine lv_if_ne (tgt := 75) hx hb dX10_knob_70 (by decide) (fun q => absurd rfl q) (fun _ => ?_)
              refine lv_iconst (v := (-1)) hx hb dX10_knob_73 (by decide) ?_
              exact ty_iret hx hb hr hlk hG hS (by first | exact Or.inl ⟨rfl, by omega⟩ | exact Or.inr ⟨rfl, by omega⟩ | exact Or.inr (Or.inl ⟨rfl, by omega⟩) | exact Or.inr (Or.inr ⟨rfl, by omega⟩) | exact ⟨rfl, by omega⟩ | omega | trivial | rfl | (exfalso; omega)) dX10_knob_74
          · skip
            refine lv_if_eq (tgt := 73) hx hb dX10_knob_57 (by decide) (fun _ => ?_) (fun q => absurd (by decide) q)
            refine lv_iconst (v := (-1)) hx hb dX10_knob_73 (by decide) ?_
            exact ty_iret hx hb hr hlk hG hS (by first | exact Or.inl ⟨rfl, by omega⟩ | exact Or.inr ⟨rfl, by omega⟩ | exact Or.inr (Or.inl ⟨rfl, by omega⟩) | exact Or.inr (Or.inr ⟨rfl, by omega⟩) | exact ⟨rfl, by omega⟩ | omega | trivial | rfl | (exfalso; omega)) dX10_knob_74
        · skip
          refine lv_pc (pc2 := 44) rfl ?_
          refine lv_if_eq (tgt := 73) hx hb dX10_knob_44 (by decide) (fun _ => ?_) (fun q => absurd (by decide) q)
          refine lv_iconst (v := (-1)) hx hb dX10_knob_73 (by decide) ?_
          exact ty_iret hx hb hr hlk hG hS (by first | exact Or.inl ⟨rfl, by omega⟩ | exact Or.inr ⟨rfl, by omega⟩ | exact Or.inr (Or.inl ⟨rfl, by omega⟩) | exact Or.inr (Or.inr ⟨rfl, by omega⟩) | exact ⟨rfl, by omega⟩ | omega | trivial | rfl | (exfalso; omega)) dX10_knob_74
      · skip
        refine lv_if_eq (tgt := 73) hx hb dX10_knob_31 (by decide) (fun _ => ?_) (fun q => absurd (by decide) q)
        refine lv_iconst (v := (-1)) hx hb dX10_knob_73 (by decide) ?_
        exact ty_iret hx hb hr hlk hG hS (by first | exact Or.inl ⟨rfl, by omega⟩ | exact Or.inr ⟨rfl, by omega⟩ | exact Or.inr (Or.inl ⟨rfl, by omega⟩) | exact Or.inr (Or.inr ⟨rfl, by omega⟩) | exact ⟨rfl, by omega⟩ | omega | trivial | rfl | (exfalso; omega)) dX10_knob_74
    · skip
      refine lv_if_eq (tgt := 73) hx hb dX10_knob_19 (by decide) (fun _ => ?_) (fun q => absurd (by decide) q)
      refine lv_iconst (v := (-1)) hx hb dX10_knob_73 (by decide) ?_
      refine lv_pc (pc2 := 74) rfl ?_
      exact ty_iret hx hb hr hlk hG hS (by first | exact Or.inl ⟨rfl, by omega⟩ | exact Or.inr ⟨rfl, by omega⟩ | exact Or.inr (Or.inl ⟨rfl, by omega⟩) | exact Or.inr (Or.inr ⟨rfl, by omega⟩) | exact ⟨rfl, by omega⟩ | omega | trivial | rfl | (exfalso; omega)) dX10_knob_74
  · skip
    refine lv_if_eq (tgt := 73) hx hb dX10_knob_7 (by decide) (fun _ => ?_) (fun q => absurd (by decide) q)
    refine lv_iconst (v := (-1)) hx hb dX10_knob_73 (by decide) ?_
    exact ty_iret hx hb hr hlk hG hS (by first | exact Or.inl ⟨rfl, by omega⟩ | exact Or.inr ⟨rfl, by omega⟩ | exact Or.inr (Or.inl ⟨rfl, by omega⟩) | exact Or.inr (Or.inr ⟨rfl, by omega⟩) | exact ⟨rfl, by omega⟩ | omega | trivial | rfl | (exfalso; omega)) dX10_knob_74

def uX10_fits : List Cond := .code yX10_fits cX10_fits 1 (some .int) :: ([.fieldLink RX10 173 "RiverModelModel" "isBuilt" "Z"] ++ wsX100)
set_option maxHeartbeats 4000000 in
set_option maxRecDepth 100000 in
theorem c_X10_fits (l : Launch) (D : va_G) (t : Nat → Nat) (cI cL cC : ClassId) (a0 : Nat) (k_a0 : t a0 = 40) : tM l yX10_fits uX10_fits 0 0 D (fF cI cL cC 0 0) (fF cI cL cC 0 0) t cI cL cC [.ref a0] wr0 (pI (fun r => r = (-2))) := by
  refine tM.ofW (cc := cX10_fits) (maxL := 1) (ret := (some .int)) (by decide) rfl (Nat.le_of_ble_eq_true rfl) ?_
  intro p e s m below meth c hx hb hr hml hown hts hlk H locs hG hK hE hS ls hl
  have hl : lv_has ls 1 [(0, .ref a0)] := hl
  have in10 : ∀ w ∈ wsX100, w ∈ uX10_fits := fun w h => List.mem_cons_of_mem _ (List.mem_append_right _ h)
  refine lv_aload_n hx hb dX10_fits_0 rfl (lv_at hl 0 rfl) ?_
  obtain ⟨r_1, r_3, r_5, r_7, r_9, r_11, r_13, r_15, r_17, r_19, r_21, r_23, r_25, r_27, r_29, r_31, r_33, r_35, r_37, r_39, r_41, v_43, v_44, v_45, v_46, v_47, r_48, v_50, r_51, at_53, h_2, h_4, h_6, h_8, h_10, h_12, h_14, h_16, h_18, h_20, h_22, h_24, h_26, h_28, h_30, h_32, h_34, h_36, h_38, h_40, h_42, h_49, h_52⟩ := fF_o40 hG k_a0
  refine va_get (D := D) (ci := 9) (v := .int 0) (C := RX10) (T := TX10) (N := 36) hx hb hts in10 hown hK (va_one at_53) 0 rfl rfl 2 (by decide) (hts (.fieldLink RX10 173 "RiverModelModel" "isBuilt" "Z") (List.mem_of_getElem? (i := 1) rfl)) (fun _ h9 => h9) rfl dX10_fits_1 ?_
  refine lv_if_eq (tgt := 15) hx hb dX10_fits_4 (by decide) (fun _ => ?_) (fun q => absurd (by decide) q)
  refine lv_bipush (v := (-2)) hx hb dX10_fits_15 (by decide) ?_
  exact ty_iret hx hb hr hlk hG hS (by first | exact Or.inl ⟨rfl, by omega⟩ | exact Or.inr ⟨rfl, by omega⟩ | exact Or.inr (Or.inl ⟨rfl, by omega⟩) | exact Or.inr (Or.inr ⟨rfl, by omega⟩) | exact ⟨rfl, by omega⟩ | omega | trivial | rfl | (exfalso; omega)) dX10_fits_17

def uX10_fit : List Cond := .code yX10_fit cX10_fit 3 (some .int) :: ([.methodLink RX10 85 yX10_in, .static yX10_in, .initialized RX10, .fieldLink RX10 173 "RiverModelModel" "isBuilt" "Z", .code yX10_in cX10_in 6 (some .boolean)] ++ wsX100)
set_option maxRecDepth 20000 in
theorem gu_X10_fit_X10_in_85 : GoodIn uX10_fit (va_wsS RX10 85 yX10_in uX10_in) := goodIn_r _ [1, 2, 3, 5] (by decide +kernel) (by decide +kernel)
set_option maxHeartbeats 4000000 in
set_option maxRecDepth 100000 in
theorem c_X10_fit (l : Launch) (D : va_G) (t : Nat → Nat) (cI cL cC : ClassId) (a0 : Nat) (a1 : Int32) (a2 : Int32) (k_a0 : t a0 = 40) : tM l yX10_fit uX10_fit 1 25 D (fF cI cL cC 0 0) (fF cI cL cC 0 0) t cI cL cC [.ref a0, .int a1, .int a2] wr0 (pI (fun r => (r = (-1) ∧ (a1.toInt < 0 ∨ a2.toInt < 0 ∨ 1 < a2.toInt)) ∨ (r = (-2) ∧ 0 ≤ a1.toInt ∧ 0 ≤ a2.toInt ∧ a2.toInt ≤ 1))) := by
  refine tM.ofW (cc := cX10_fit) (maxL := 3) (ret := (some .int)) (by decide) rfl (Nat.le_of_ble_eq_true rfl) ?_
  intro p e s m below meth c hx hb hr hml hown hts hlk H locs hG hK hE hS ls hl
  have hl : lv_has ls 3 [(0, .ref a0), (1, .int a1), (2, .int a2)] := hl
  have in10 : ∀ w ∈ wsX100, w ∈ uX10_fit := fun w h => List.mem_cons_of_mem _ (List.mem_append_right _ h)
  refine lv_iload_n hx hb dX10_fit_0 rfl (lv_at hl 1 rfl) ?_
  refine lv_if_lt (tgt := 14) hx hb dX10_fit_1 (by decide) (fun c_1 => ?_) (fun c_1 => ?_)
  · skip
    have c_1 : a1.toInt < 0 := q_lt c_1
    refine lv_iconst (v := (-1)) hx hb dX10_fit_14 (by decide) ?_
    exact ty_iret hx hb hr hlk hG hS (by first | exact Or.inl ⟨rfl, by omega⟩ | exact Or.inr ⟨rfl, by omega⟩ | exact Or.inr (Or.inl ⟨rfl, by omega⟩) | exact Or.inr (Or.inr ⟨rfl, by omega⟩) | exact ⟨rfl, by omega⟩ | omega | trivial | rfl | (exfalso; omega)) dX10_fit_15
  · skip
    have c_1 : 0 ≤ a1.toInt := q_nlt c_1
    refine lv_iload_n hx hb dX10_fit_4 rfl (lv_at hl 2 rfl) ?_
    refine lv_i2l (v := a2.toInt64) hx hb dX10_fit_5 rfl ?_
    refine lv_lconst (v := 0) hx hb dX10_fit_6 (by decide) ?_
    refine lv_pc (pc2 := 7) rfl ?_
    refine lv_lconst (v := 1) hx hb dX10_fit_7 (by decide) ?_
    refine ty_calli ((W.runS (As := [.long a2.toInt64, .long 0, .long 1]) (rest := []) ⟨hx, hb, hml, hown, hts⟩ (c_in l D t cI cL cC 0 0 a2.toInt64 0 1 a2.toInt 0 1 (q_i2l _) (by decide) (by decide) ) (va_cwS 3 hts gu_X10_fit_X10_in_85 rfl rfl rfl (by decide +kernel) ⟨Nat.le_of_ble_eq_true rfl, Nat.le_of_ble_eq_true rfl⟩) (tP_S hG hE) rfl rfl hl.1 rfl (lv_room (Nat.le_of_ble_eq_true rfl)) dX10_fit_8 ⟨Nat.le_of_ble_eq_true rfl, Nat.le_of_ble_eq_true rfl⟩)) hS (fun _ h => h) (fun r_2 H locs hp_3 hG hS o_4 => ?_)
    rcases hp_3 with ⟨rfl, hc_259, hc_260⟩ | ⟨rfl, hc_261⟩
    · skip
      refine lv_if_ne (tgt := 16) hx hb dX10_fit_11 (by decide) (fun _ => ?_) (fun q => absurd q (by decide))
      refine lv_aload_n hx hb dX10_fit_16 rfl (lv_at hl 0 rfl) ?_
      obtain ⟨r_5, r_7, r_9, r_11, r_13, r_15, r_17, r_19, r_21, r_23, r_25, r_27, r_29, r_31, r_33, r_35, r_37, r_39, r_41, r_43, r_45, v_47, v_48, v_49, v_50, v_51, r_52, v_54, r_55, at_57, h_6, h_8, h_10, h_12, h_14, h_16, h_18, h_20, h_22, h_24, h_26, h_28, h_30, h_32, h_34, h_36, h_38, h_40, h_42, h_44, h_46, h_53, h_56⟩ := fF_o40 hG k_a0
      refine va_get (D := D) (ci := 9) (v := .int 0) (C := RX10) (T := TX10) (N := 36) hx hb hts in10 hown hK (va_one at_57) 0 rfl rfl 2 (by decide) (hts (.fieldLink RX10 173 "RiverModelModel" "isBuilt" "Z") (List.mem_of_getElem? (i := 4) rfl)) (fun _ h9 => h9) rfl dX10_fit_17 ?_
      refine lv_if_ne (tgt := 26) hx hb dX10_fit_20 (by decide) (fun q => absurd rfl q) (fun _ => ?_)
      refine lv_bipush (v := (-2)) hx hb dX10_fit_23 (by decide) ?_
      exact ty_iret hx hb hr hlk hG hS (by first | exact Or.inl ⟨rfl, by omega⟩ | exact Or.inr ⟨rfl, by omega⟩ | exact Or.inr (Or.inl ⟨rfl, by omega⟩) | exact Or.inr (Or.inr ⟨rfl, by omega⟩) | exact ⟨rfl, by omega⟩ | omega | trivial | rfl | (exfalso; omega)) dX10_fit_25
    · skip
      refine lv_pc (pc2 := 11) rfl ?_
      refine lv_if_ne (tgt := 16) hx hb dX10_fit_11 (by decide) (fun q => absurd rfl q) (fun _ => ?_)
      refine lv_iconst (v := (-1)) hx hb dX10_fit_14 (by decide) ?_
      exact ty_iret hx hb hr hlk hG hS (by first | exact Or.inl ⟨rfl, by omega⟩ | exact Or.inr ⟨rfl, by omega⟩ | exact Or.inr (Or.inl ⟨rfl, by omega⟩) | exact Or.inr (Or.inr ⟨rfl, by omega⟩) | exact ⟨rfl, by omega⟩ | omega | trivial | rfl | (exfalso; omega)) dX10_fit_15

def uX10_take : List Cond := .code yX10_take cX10_take 2 (some .int) :: ([.fieldLink RX10 173 "RiverModelModel" "isBuilt" "Z"] ++ wsX100)
set_option maxHeartbeats 4000000 in
set_option maxRecDepth 100000 in
theorem c_X10_take (l : Launch) (D : va_G) (t : Nat → Nat) (cI cL cC : ClassId) (a0 : Nat) (a1 : Int32) (k_a0 : t a0 = 40) : tM l yX10_take uX10_take 0 0 D (fF cI cL cC 0 0) (fF cI cL cC 0 0) t cI cL cC [.ref a0, .int a1] wr0 (pI (fun r => (r = (-1) ∧ (a1.toInt < 0)) ∨ (r = (-2) ∧ 0 ≤ a1.toInt))) := by
  refine tM.ofW (cc := cX10_take) (maxL := 2) (ret := (some .int)) (by decide) rfl (Nat.le_of_ble_eq_true rfl) ?_
  intro p e s m below meth c hx hb hr hml hown hts hlk H locs hG hK hE hS ls hl
  have hl : lv_has ls 2 [(0, .ref a0), (1, .int a1)] := hl
  have in10 : ∀ w ∈ wsX100, w ∈ uX10_take := fun w h => List.mem_cons_of_mem _ (List.mem_append_right _ h)
  refine lv_iload_n hx hb dX10_take_0 rfl (lv_at hl 1 rfl) ?_
  refine lv_if_ge (tgt := 6) hx hb dX10_take_1 (by decide) (fun c_1 => ?_) (fun c_1 => ?_)
  · skip
    have c_1 : 0 ≤ a1.toInt := q_le c_1
    refine lv_aload_n hx hb dX10_take_6 rfl (lv_at hl 0 rfl) ?_
    obtain ⟨r_2, r_4, r_6, r_8, r_10, r_12, r_14, r_16, r_18, r_20, r_22, r_24, r_26, r_28, r_30, r_32, r_34, r_36, r_38, r_40, r_42, v_44, v_45, v_46, v_47, v_48, r_49, v_51, r_52, at_54, h_3, h_5, h_7, h_9, h_11, h_13, h_15, h_17, h_19, h_21, h_23, h_25, h_27, h_29, h_31, h_33, h_35, h_37, h_39, h_41, h_43, h_50, h_53⟩ := fF_o40 hG k_a0
    refine va_get (D := D) (ci := 9) (v := .int 0) (C := RX10) (T := TX10) (N := 36) hx hb hts in10 hown hK (va_one at_54) 0 rfl rfl 2 (by decide) (hts (.fieldLink RX10 173 "RiverModelModel" "isBuilt" "Z") (List.mem_of_getElem? (i := 1) rfl)) (fun _ h9 => h9) rfl dX10_take_7 ?_
    refine lv_if_ne (tgt := 16) hx hb dX10_take_10 (by decide) (fun q => absurd rfl q) (fun _ => ?_)
    refine lv_bipush (v := (-2)) hx hb dX10_take_13 (by decide) ?_
    exact ty_iret hx hb hr hlk hG hS (by first | exact Or.inl ⟨rfl, by omega⟩ | exact Or.inr ⟨rfl, by omega⟩ | exact Or.inr (Or.inl ⟨rfl, by omega⟩) | exact Or.inr (Or.inr ⟨rfl, by omega⟩) | exact ⟨rfl, by omega⟩ | omega | trivial | rfl | (exfalso; omega)) dX10_take_15
  · skip
    have c_1 : a1.toInt < 0 := q_nle c_1
    refine lv_pc (pc2 := 4) rfl ?_
    refine lv_iconst (v := (-1)) hx hb dX10_take_4 (by decide) ?_
    exact ty_iret hx hb hr hlk hG hS (by first | exact Or.inl ⟨rfl, by omega⟩ | exact Or.inr ⟨rfl, by omega⟩ | exact Or.inr (Or.inl ⟨rfl, by omega⟩) | exact Or.inr (Or.inr ⟨rfl, by omega⟩) | exact ⟨rfl, by omega⟩ | omega | trivial | rfl | (exfalso; omega)) dX10_take_5

def uX10_chance : List Cond := .code yX10_chance cX10_chance 5 (some .int) :: ([.constantLong RX10 243 (3), .methodLink RX10 85 yX10_in, .static yX10_in, .initialized RX10, .constantLong RX10 295 (24), .methodLink RX10 297 yX10_canSee, .instanceMethod yX10_canSee, .selects RX10 yX10_canSee yX10_canSee, .code yX10_in cX10_in 6 (some .boolean), .code yX10_canSee cX10_canSee 3 (some .boolean), .methodLink RX10 248 yX10_isSet, .instanceMethod yX10_isSet, .selects RX10 yX10_isSet yX10_isSet, .code yX10_isSet cX10_isSet 2 (some .boolean), .fieldLink RX10 173 "RiverModelModel" "isBuilt" "Z"] ++ wsX100)
set_option maxRecDepth 20000 in
theorem gu_X10_chance_X10_in_85 : GoodIn uX10_chance (va_wsS RX10 85 yX10_in uX10_in) := goodIn_r _ [2, 3, 4, 9] (by decide +kernel) (by decide +kernel)
set_option maxRecDepth 20000 in
theorem gu_X10_chance_X10_canSee_297 : GoodIn uX10_chance (wsV RX10 297 RX10 yX10_canSee uX10_canSee) := goodIn_r _ [6, 7, 8, 4, 10, 11, 12, 13, 4, 14, 15, 16, 17, 18, 19, 20, 21, 22, 23, 24, 25, 26, 27, 28, 29, 30, 31, 32, 33, 34, 35, 36, 37, 38, 39, 40, 41, 42, 43, 44, 45, 46, 47, 48, 49, 50, 51] (by decide +kernel) (by decide +kernel)
set_option maxHeartbeats 4000000 in
set_option maxRecDepth 100000 in
theorem c_X10_chance (l : Launch) (D : va_G) (t : Nat → Nat) (cI cL cC : ClassId) (a0 : Nat) (a1 : Int32) (a2 : Int32) (a3 : Int64) (k_a0 : t a0 = 40) : tM l yX10_chance uX10_chance 2 43 D (fF cI cL cC 0 0) (fF cI cL cC 0 0) t cI cL cC [.ref a0, .int a1, .int a2, .long a3] wr0 (pI (fun r => (r = (-1) ∧ (a1.toInt < 0 ∨ 3 < a1.toInt ∨ a2.toInt < 1 ∨ 24 < a2.toInt)) ∨ (r = (-2) ∧ 0 ≤ a1.toInt ∧ a1.toInt ≤ 3 ∧ 1 ≤ a2.toInt ∧ a2.toInt ≤ 24))) := by
  refine tM.ofW (cc := cX10_chance) (maxL := 5) (ret := (some .int)) (by decide) rfl (Nat.le_of_ble_eq_true rfl) ?_
  intro p e s m below meth c hx hb hr hml hown hts hlk H locs hG hK hE hS ls hl
  have hl : lv_has ls 5 [(0, .ref a0), (1, .int a1), (2, .int a2), (3, .long a3)] := hl
  skip
  refine lv_iload_n hx hb dX10_chance_0 rfl (lv_at hl 1 rfl) ?_
  refine lv_i2l (v := a1.toInt64) hx hb dX10_chance_1 rfl ?_
  refine lv_lconst (v := 0) hx hb dX10_chance_2 (by decide) ?_
  refine lv_ldc2 hx hb hown (hts (.constantLong RX10 243 (3)) (List.mem_of_getElem? (i := 1) rfl)) dX10_chance_3 ?_
  refine ty_calli ((W.runS (As := [.long a1.toInt64, .long 0, .long 3]) (rest := []) ⟨hx, hb, hml, hown, hts⟩ (c_in l D t cI cL cC 0 0 a1.toInt64 0 3 a1.toInt 0 3 (q_i2l _) (by decide) (by decide) ) (va_cwS 3 hts gu_X10_chance_X10_in_85 rfl rfl rfl (by decide +kernel) ⟨Nat.le_of_ble_eq_true rfl, Nat.le_of_ble_eq_true rfl⟩) (tP_S hG hE) rfl rfl hl.1 rfl (lv_room (Nat.le_of_ble_eq_true rfl)) dX10_chance_6 ⟨Nat.le_of_ble_eq_true rfl, Nat.le_of_ble_eq_true rfl⟩)) hS (fun _ h => h) (fun r_1 H locs hp_2 hG hS o_3 => ?_)
  rcases hp_2 with ⟨rfl, hc_262, hc_263⟩ | ⟨rfl, hc_264⟩
  · skip
    refine lv_if_eq (tgt := 24) hx hb dX10_chance_9 (by decide) (fun q => absurd q (by decide)) (fun _ => ?_)
    refine lv_iload_n hx hb dX10_chance_12 rfl (lv_at hl 2 rfl) ?_
    refine lv_pc (pc2 := 13) rfl ?_
    refine lv_i2l (v := a2.toInt64) hx hb dX10_chance_13 rfl ?_
    refine lv_lconst (v := 1) hx hb dX10_chance_14 (by decide) ?_
    refine lv_ldc2 hx hb hown (hts (.constantLong RX10 295 (24)) (List.mem_of_getElem? (i := 5) rfl)) dX10_chance_15 ?_
    refine ty_calli ((W.runS (As := [.long a2.toInt64, .long 1, .long 24]) (rest := []) ⟨hx, hb, hml, hown, hts⟩ (c_in l D t cI cL cC 0 0 a2.toInt64 1 24 a2.toInt 1 24 (q_i2l _) (by decide) (by decide) ) (va_cwS 3 hts gu_X10_chance_X10_in_85 rfl rfl rfl (by decide +kernel) ⟨Nat.le_of_ble_eq_true rfl, Nat.le_of_ble_eq_true rfl⟩) (tP_S hG hE) rfl rfl hl.1 rfl (lv_room (Nat.le_of_ble_eq_true rfl)) dX10_chance_18 ⟨Nat.le_of_ble_eq_true rfl, Nat.le_of_ble_eq_true rfl⟩)) hS (fun _ h => h) (fun r_4 H locs hp_5 hG hS o_6 => ?_)
    rcases hp_5 with ⟨rfl, hc_265, hc_266⟩ | ⟨rfl, hc_267⟩
    · skip
      refine lv_if_ne (tgt := 26) hx hb dX10_chance_21 (by decide) (fun _ => ?_) (fun q => absurd q (by decide))
      refine lv_aload_n hx hb dX10_chance_26 rfl (lv_at hl 0 rfl) ?_
      refine lv_iload_n hx hb dX10_chance_27 rfl (lv_at hl 1 rfl) ?_
      refine lv_iload_n hx hb dX10_chance_28 rfl (lv_at hl 2 rfl) ?_
      refine lv_pc (pc2 := 29) rfl ?_
      obtain ⟨r_7, r_9, r_11, r_13, r_15, r_17, r_19, r_21, r_23, r_25, r_27, r_29, r_31, r_33, r_35, r_37, r_39, r_41, r_43, r_45, r_47, v_49, v_50, v_51, v_52, v_53, r_54, v_56, r_57, at_59, h_8, h_10, h_12, h_14, h_16, h_18, h_20, h_22, h_24, h_26, h_28, h_30, h_32, h_34, h_36, h_38, h_40, h_42, h_44, h_46, h_48, h_55, h_58⟩ := fF_o40 hG k_a0
      refine ty_calli ((W.runV (As := [.int a1, .int a2]) (rest := []) ⟨hx, hb, hml, hown, hts⟩ (c_X10_canSee l D t cI cL cC a0 a1 a2 k_a0) (cwV 2 hts gu_X10_chance_X10_canSee_297 rfl rfl rfl (by decide +kernel) ⟨Nat.le_of_ble_eq_true rfl, Nat.le_of_ble_eq_true rfl⟩) (tP_V hG hE at_59 rfl) rfl rfl hl.1 rfl (lv_room (Nat.le_of_ble_eq_true rfl)) dX10_chance_29 ⟨Nat.le_of_ble_eq_true rfl, Nat.le_of_ble_eq_true rfl⟩)) hS (fun _ h => h) (fun r_60 H locs hp_61 hG hS o_62 => ?_)
      have at_59 := va_at.keptC at_59 o_62 k_a0 rfl
      rcases hp_61 with rfl
      refine lv_if_eq (tgt := 45) hx hb dX10_chance_32 (by decide) (fun _ => ?_) (fun q => absurd (by decide) q)
      refine lv_bipush (v := (-2)) hx hb dX10_chance_45 (by decide) ?_
      exact ty_iret hx hb hr hlk hG hS (by first | exact Or.inl ⟨rfl, by omega⟩ | exact Or.inr ⟨rfl, by omega⟩ | exact Or.inr (Or.inl ⟨rfl, by omega⟩) | exact Or.inr (Or.inr ⟨rfl, by omega⟩) | exact ⟨rfl, by omega⟩ | omega | trivial | rfl | (exfalso; omega)) dX10_chance_47
    · skip
      refine lv_if_ne (tgt := 26) hx hb dX10_chance_21 (by decide) (fun q => absurd rfl q) (fun _ => ?_)
      refine lv_iconst (v := (-1)) hx hb dX10_chance_24 (by decide) ?_
      exact ty_iret hx hb hr hlk hG hS (by first | exact Or.inl ⟨rfl, by omega⟩ | exact Or.inr ⟨rfl, by omega⟩ | exact Or.inr (Or.inl ⟨rfl, by omega⟩) | exact Or.inr (Or.inr ⟨rfl, by omega⟩) | exact ⟨rfl, by omega⟩ | omega | trivial | rfl | (exfalso; omega)) dX10_chance_25
  · skip
    refine lv_if_eq (tgt := 24) hx hb dX10_chance_9 (by decide) (fun _ => ?_) (fun q => absurd (by decide) q)
    refine lv_pc (pc2 := 24) rfl ?_
    refine lv_iconst (v := (-1)) hx hb dX10_chance_24 (by decide) ?_
    exact ty_iret hx hb hr hlk hG hS (by first | exact Or.inl ⟨rfl, by omega⟩ | exact Or.inr ⟨rfl, by omega⟩ | exact Or.inr (Or.inl ⟨rfl, by omega⟩) | exact Or.inr (Or.inr ⟨rfl, by omega⟩) | exact ⟨rfl, by omega⟩ | omega | trivial | rfl | (exfalso; omega)) dX10_chance_25

def uX10_warn : List Cond := .code yX10_warn cX10_warn 9 (some .int) :: ([.constantLong RX10 243 (3), .methodLink RX10 85 yX10_in, .static yX10_in, .initialized RX10, .constantLong RX10 295 (24), .constantLong RX10 107 (100), .methodLink RX10 297 yX10_canSee, .instanceMethod yX10_canSee, .selects RX10 yX10_canSee yX10_canSee, .code yX10_in cX10_in 6 (some .boolean), .code yX10_canSee cX10_canSee 3 (some .boolean), .methodLink RX10 248 yX10_isSet, .instanceMethod yX10_isSet, .selects RX10 yX10_isSet yX10_isSet, .code yX10_isSet cX10_isSet 2 (some .boolean), .fieldLink RX10 173 "RiverModelModel" "isBuilt" "Z"] ++ wsX100)
set_option maxRecDepth 20000 in
theorem gu_X10_warn_X10_in_85 : GoodIn uX10_warn (va_wsS RX10 85 yX10_in uX10_in) := goodIn_r _ [2, 3, 4, 10] (by decide +kernel) (by decide +kernel)
set_option maxRecDepth 20000 in
theorem gu_X10_warn_X10_canSee_297 : GoodIn uX10_warn (wsV RX10 297 RX10 yX10_canSee uX10_canSee) := goodIn_r _ [7, 8, 9, 4, 11, 12, 13, 14, 4, 15, 16, 17, 18, 19, 20, 21, 22, 23, 24, 25, 26, 27, 28, 29, 30, 31, 32, 33, 34, 35, 36, 37, 38, 39, 40, 41, 42, 43, 44, 45, 46, 47, 48, 49, 50, 51, 52] (by decide +kernel) (by decide +kernel)
set_option maxHeartbeats 4000000 in
set_option maxRecDepth 100000 in
theorem c_X10_warn (l : Launch) (D : va_G) (t : Nat → Nat) (cI cL cC : ClassId) (a0 : Nat) (a1 : Int32) (a2 : Int32) (a3 : Int64) (a4 : Int32) (k_a0 : t a0 = 40) : tM l yX10_warn uX10_warn 2 43 D (fF cI cL cC 0 0) (fF cI cL cC 0 0) t cI cL cC [.ref a0, .int a1, .int a2, .long a3, .int a4] wr0 (pI (fun r => (r = (-1) ∧ (a1.toInt < 0 ∨ 3 < a1.toInt ∨ a2.toInt < 1 ∨ 24 < a2.toInt ∨ a4.toInt < 0 ∨ 100 < a4.toInt)) ∨ (r = (-2) ∧ 0 ≤ a1.toInt ∧ a1.toInt ≤ 3 ∧ 1 ≤ a2.toInt ∧ a2.toInt ≤ 24 ∧ 0 ≤ a4.toInt ∧ a4.toInt ≤ 100))) := by
  refine tM.ofW (cc := cX10_warn) (maxL := 9) (ret := (some .int)) (by decide) rfl (Nat.le_of_ble_eq_true rfl) ?_
  intro p e s m below meth c hx hb hr hml hown hts hlk H locs hG hK hE hS ls hl
  have hl : lv_has ls 9 [(0, .ref a0), (1, .int a1), (2, .int a2), (3, .long a3), (5, .int a4)] := hl
  skip
  refine lv_iload_n hx hb dX10_warn_0 rfl (lv_at hl 1 rfl) ?_
  refine lv_i2l (v := a1.toInt64) hx hb dX10_warn_1 rfl ?_
  refine lv_lconst (v := 0) hx hb dX10_warn_2 (by decide) ?_
  refine lv_ldc2 hx hb hown (hts (.constantLong RX10 243 (3)) (List.mem_of_getElem? (i := 1) rfl)) dX10_warn_3 ?_
  refine ty_calli ((W.runS (As := [.long a1.toInt64, .long 0, .long 3]) (rest := []) ⟨hx, hb, hml, hown, hts⟩ (c_in l D t cI cL cC 0 0 a1.toInt64 0 3 a1.toInt 0 3 (q_i2l _) (by decide) (by decide) ) (va_cwS 3 hts gu_X10_warn_X10_in_85 rfl rfl rfl (by decide +kernel) ⟨Nat.le_of_ble_eq_true rfl, Nat.le_of_ble_eq_true rfl⟩) (tP_S hG hE) rfl rfl hl.1 rfl (lv_room (Nat.le_of_ble_eq_true rfl)) dX10_warn_6 ⟨Nat.le_of_ble_eq_true rfl, Nat.le_of_ble_eq_true rfl⟩)) hS (fun _ h => h) (fun r_1 H locs hp_2 hG hS o_3 => ?_)
  rcases hp_2 with ⟨rfl, hc_268, hc_269⟩ | ⟨rfl, hc_270⟩
  · skip
    refine lv_if_eq (tgt := 37) hx hb dX10_warn_9 (by decide) (fun q => absurd q (by decide)) (fun _ => ?_)
    refine lv_iload_n hx hb dX10_warn_12 rfl (lv_at hl 2 rfl) ?_
    refine lv_pc (pc2 := 13) rfl ?_
    refine lv_i2l (v := a2.toInt64) hx hb dX10_warn_13 rfl ?_
    refine lv_lconst (v := 1) hx hb dX10_warn_14 (by decide) ?_
    refine lv_ldc2 hx hb hown (hts (.constantLong RX10 295 (24)) (List.mem_of_getElem? (i := 5) rfl)) dX10_warn_15 ?_
    refine ty_calli ((W.runS (As := [.long a2.toInt64, .long 1, .long 24]) (rest := []) ⟨hx, hb, hml, hown, hts⟩ (c_in l D t cI cL cC 0 0 a2.toInt64 1 24 a2.toInt 1 24 (q_i2l _) (by decide) (by decide) ) (va_cwS 3 hts gu_X10_warn_X10_in_85 rfl rfl rfl (by decide +kernel) ⟨Nat.le_of_ble_eq_true rfl, Nat.le_of_ble_eq_true rfl⟩) (tP_S hG hE) rfl rfl hl.1 rfl (lv_room (Nat.le_of_ble_eq_true rfl)) dX10_warn_18 ⟨Nat.le_of_ble_eq_true rfl, Nat.le_of_ble_eq_true rfl⟩)) hS (fun _ h => h) (fun r_4 H locs hp_5 hG hS o_6 => ?_)
    rcases hp_5 with ⟨rfl, hc_271, hc_272⟩ | ⟨rfl, hc_273⟩
    · skip
      refine lv_if_eq (tgt := 37) hx hb dX10_warn_21 (by decide) (fun q => absurd q (by decide)) (fun _ => ?_)
      refine lv_iload hx hb dX10_warn_24 (lv_at hl 4 rfl) ?_
      refine lv_i2l (v := a4.toInt64) hx hb dX10_warn_26 rfl ?_
      refine lv_lconst (v := 0) hx hb dX10_warn_27 (by decide) ?_
      refine lv_pc (pc2 := 28) rfl ?_
      refine lv_ldc2 hx hb hown (hts (.constantLong RX10 107 (100)) (List.mem_of_getElem? (i := 6) rfl)) dX10_warn_28 ?_
      refine ty_calli ((W.runS (As := [.long a4.toInt64, .long 0, .long 100]) (rest := []) ⟨hx, hb, hml, hown, hts⟩ (c_in l D t cI cL cC 0 0 a4.toInt64 0 100 a4.toInt 0 100 (q_i2l _) (by decide) (by decide) ) (va_cwS 3 hts gu_X10_warn_X10_in_85 rfl rfl rfl (by decide +kernel) ⟨Nat.le_of_ble_eq_true rfl, Nat.le_of_ble_eq_true rfl⟩) (tP_S hG hE) rfl rfl hl.1 rfl (lv_room (Nat.le_of_ble_eq_true rfl)) dX10_warn_31 ⟨Nat.le_of_ble_eq_true rfl, Nat.le_of_ble_eq_true rfl⟩)) hS (fun _ h => h) (fun r_7 H locs hp_8 hG hS o_9 => ?_)
      rcases hp_8 with ⟨rfl, hc_274, hc_275⟩ | ⟨rfl, hc_276⟩
      · skip
        refine lv_if_ne (tgt := 39) hx hb dX10_warn_34 (by decide) (fun _ => ?_) (fun q => absurd q (by decide))
        refine lv_aload_n hx hb dX10_warn_39 rfl (lv_at hl 0 rfl) ?_
        refine lv_iload_n hx hb dX10_warn_40 rfl (lv_at hl 1 rfl) ?_
        refine lv_iload_n hx hb dX10_warn_41 rfl (lv_at hl 2 rfl) ?_
        obtain ⟨r_10, r_12, r_14, r_16, r_18, r_20, r_22, r_24, r_26, r_28, r_30, r_32, r_34, r_36, r_38, r_40, r_42, r_44, r_46, r_48, r_50, v_52, v_53, v_54, v_55, v_56, r_57, v_59, r_60, at_62, h_11, h_13, h_15, h_17, h_19, h_21, h_23, h_25, h_27, h_29, h_31, h_33, h_35, h_37, h_39, h_41, h_43, h_45, h_47, h_49, h_51, h_58, h_61⟩ := fF_o40 hG k_a0
        refine ty_calli ((W.runV (As := [.int a1, .int a2]) (rest := []) ⟨hx, hb, hml, hown, hts⟩ (c_X10_canSee l D t cI cL cC a0 a1 a2 k_a0) (cwV 2 hts gu_X10_warn_X10_canSee_297 rfl rfl rfl (by decide +kernel) ⟨Nat.le_of_ble_eq_true rfl, Nat.le_of_ble_eq_true rfl⟩) (tP_V hG hE at_62 rfl) rfl rfl hl.1 rfl (lv_room (Nat.le_of_ble_eq_true rfl)) dX10_warn_42 ⟨Nat.le_of_ble_eq_true rfl, Nat.le_of_ble_eq_true rfl⟩)) hS (fun _ h => h) (fun r_63 H locs hp_64 hG hS o_65 => ?_)
        have at_62 := va_at.keptC at_62 o_65 k_a0 rfl
        rcases hp_64 with rfl
        refine lv_if_ne (tgt := 51) hx hb dX10_warn_45 (by decide) (fun q => absurd rfl q) (fun _ => ?_)
        refine lv_pc (pc2 := 48) rfl ?_
        refine lv_bipush (v := (-2)) hx hb dX10_warn_48 (by decide) ?_
        exact ty_iret hx hb hr hlk hG hS (by first | exact Or.inl ⟨rfl, by omega⟩ | exact Or.inr ⟨rfl, by omega⟩ | exact Or.inr (Or.inl ⟨rfl, by omega⟩) | exact Or.inr (Or.inr ⟨rfl, by omega⟩) | exact ⟨rfl, by omega⟩ | omega | trivial | rfl | (exfalso; omega)) dX10_warn_50
      · skip
        refine lv_if_ne (tgt := 39) hx hb dX10_warn_34 (by decide) (fun q => absurd rfl q) (fun _ => ?_)
        refine lv_iconst (v := (-1)) hx hb dX10_warn_37 (by decide) ?_
        exact ty_iret hx hb hr hlk hG hS (by first | exact Or.inl ⟨rfl, by omega⟩ | exact Or.inr ⟨rfl, by omega⟩ | exact Or.inr (Or.inl ⟨rfl, by omega⟩) | exact Or.inr (Or.inr ⟨rfl, by omega⟩) | exact ⟨rfl, by omega⟩ | omega | trivial | rfl | (exfalso; omega)) dX10_warn_38
    · skip
      refine lv_if_eq (tgt := 37) hx hb dX10_warn_21 (by decide) (fun _ => ?_) (fun q => absurd (by decide) q)
      refine lv_iconst (v := (-1)) hx hb dX10_warn_37 (by decide) ?_
      exact ty_iret hx hb hr hlk hG hS (by first | exact Or.inl ⟨rfl, by omega⟩ | exact Or.inr ⟨rfl, by omega⟩ | exact Or.inr (Or.inl ⟨rfl, by omega⟩) | exact Or.inr (Or.inr ⟨rfl, by omega⟩) | exact ⟨rfl, by omega⟩ | omega | trivial | rfl | (exfalso; omega)) dX10_warn_38
  · skip
    refine lv_pc (pc2 := 9) rfl ?_
    refine lv_if_eq (tgt := 37) hx hb dX10_warn_9 (by decide) (fun _ => ?_) (fun q => absurd (by decide) q)
    refine lv_iconst (v := (-1)) hx hb dX10_warn_37 (by decide) ?_
    exact ty_iret hx hb hr hlk hG hS (by first | exact Or.inl ⟨rfl, by omega⟩ | exact Or.inr ⟨rfl, by omega⟩ | exact Or.inr (Or.inl ⟨rfl, by omega⟩) | exact Or.inr (Or.inr ⟨rfl, by omega⟩) | exact ⟨rfl, by omega⟩ | omega | trivial | rfl | (exfalso; omega)) dX10_warn_38

def uX10_booked : List Cond := .code yX10_booked cX10_booked 2 (some .int) :: ([.constantLong RX10 243 (3), .methodLink RX10 85 yX10_in, .static yX10_in, .initialized RX10, .fieldLink RX10 68 "RiverModelModel" "booked" "[I", .code yX10_in cX10_in 6 (some .boolean)] ++ wsX100)
set_option maxRecDepth 20000 in
theorem gu_X10_booked_X10_in_85 : GoodIn uX10_booked (va_wsS RX10 85 yX10_in uX10_in) := goodIn_r _ [2, 3, 4, 6] (by decide +kernel) (by decide +kernel)
set_option maxHeartbeats 4000000 in
set_option maxRecDepth 100000 in
theorem c_X10_booked (l : Launch) (D : va_G) (t : Nat → Nat) (cI cL cC : ClassId) (a0 : Nat) (a1 : Int32) (k_a0 : t a0 = 40) : tM l yX10_booked uX10_booked 1 25 D (fF cI cL cC 0 0) (fF cI cL cC 0 0) t cI cL cC [.ref a0, .int a1] wr0 (pI (fun r => (r = (-1) ∧ (a1.toInt < 0 ∨ 3 < a1.toInt)) ∨ (r = 0 ∧ 0 ≤ a1.toInt ∧ a1.toInt ≤ 3))) := by
  refine tM.ofW (cc := cX10_booked) (maxL := 2) (ret := (some .int)) (by decide) rfl (Nat.le_of_ble_eq_true rfl) ?_
  intro p e s m below meth c hx hb hr hml hown hts hlk H locs hG hK hE hS ls hl
  have hl : lv_has ls 2 [(0, .ref a0), (1, .int a1)] := hl
  have in10 : ∀ w ∈ wsX100, w ∈ uX10_booked := fun w h => List.mem_cons_of_mem _ (List.mem_append_right _ h)
  refine lv_iload_n hx hb dX10_booked_0 rfl (lv_at hl 1 rfl) ?_
  refine lv_i2l (v := a1.toInt64) hx hb dX10_booked_1 rfl ?_
  refine lv_lconst (v := 0) hx hb dX10_booked_2 (by decide) ?_
  refine lv_ldc2 hx hb hown (hts (.constantLong RX10 243 (3)) (List.mem_of_getElem? (i := 1) rfl)) dX10_booked_3 ?_
  refine ty_calli ((W.runS (As := [.long a1.toInt64, .long 0, .long 3]) (rest := []) ⟨hx, hb, hml, hown, hts⟩ (c_in l D t cI cL cC 0 0 a1.toInt64 0 3 a1.toInt 0 3 (q_i2l _) (by decide) (by decide) ) (va_cwS 3 hts gu_X10_booked_X10_in_85 rfl rfl rfl (by decide +kernel) ⟨Nat.le_of_ble_eq_true rfl, Nat.le_of_ble_eq_true rfl⟩) (tP_S hG hE) rfl rfl hl.1 rfl (lv_room (Nat.le_of_ble_eq_true rfl)) dX10_booked_6 ⟨Nat.le_of_ble_eq_true rfl, Nat.le_of_ble_eq_true rfl⟩)) hS (fun _ h => h) (fun r_1 H locs hp_2 hG hS o_3 => ?_)
  rcases hp_2 with ⟨rfl, hc_277, hc_278⟩ | ⟨rfl, hc_279⟩
  · skip
    refine lv_if_eq (tgt := 21) hx hb dX10_booked_9 (by decide) (fun q => absurd q (by decide)) (fun _ => ?_)
    refine lv_aload_n hx hb dX10_booked_12 rfl (lv_at hl 0 rfl) ?_
    refine lv_pc (pc2 := 13) rfl ?_
    obtain ⟨r_4, r_6, r_8, r_10, r_12, r_14, r_16, r_18, r_20, r_22, r_24, r_26, r_28, r_30, r_32, r_34, r_36, r_38, r_40, r_42, r_44, v_46, v_47, v_48, v_49, v_50, r_51, v_53, r_54, at_56, h_5, h_7, h_9, h_11, h_13, h_15, h_17, h_19, h_21, h_23, h_25, h_27, h_29, h_31, h_33, h_35, h_37, h_39, h_41, h_43, h_45, h_52, h_55⟩ := fF_o40 hG k_a0
    refine va_get (D := D) (ci := 9) (v := .ref r_42) (C := RX10) (T := TX10) (N := 36) hx hb hts in10 hown hK (va_one at_56) 0 rfl rfl 25 (by decide) (hts (.fieldLink RX10 68 "RiverModelModel" "booked" "[I") (List.mem_of_getElem? (i := 5) rfl)) (fun _ h9 => h9) rfl dX10_booked_13 ?_
    refine lv_iload_n hx hb dX10_booked_16 rfl (lv_at hl 1 rfl) ?_
    obtain ⟨f_57, at_58, h_59⟩ := fF_o60 hG h_43
    have b_60 : vp_in a1 4 := (q_in (by omega) (by omega))
    refine va_iald hx hb hK (va_one at_58) 0 0 rfl rfl b_60 dX10_booked_17 ?_
    refine lv_seti (y := 0) (h_59 _ (q_inlt b_60)) ?_
    refine lv_goto (tgt := 22) hx hb dX10_booked_18 (by decide) ?_
    exact ty_iret hx hb hr hlk hG hS (by first | exact Or.inl ⟨rfl, by omega⟩ | exact Or.inr ⟨rfl, by omega⟩ | exact Or.inr (Or.inl ⟨rfl, by omega⟩) | exact Or.inr (Or.inr ⟨rfl, by omega⟩) | exact ⟨rfl, by omega⟩ | omega | trivial | rfl | (exfalso; omega)) dX10_booked_22
  · skip
    refine lv_if_eq (tgt := 21) hx hb dX10_booked_9 (by decide) (fun _ => ?_) (fun q => absurd (by decide) q)
    refine lv_iconst (v := (-1)) hx hb dX10_booked_21 (by decide) ?_
    exact ty_iret hx hb hr hlk hG hS (by first | exact Or.inl ⟨rfl, by omega⟩ | exact Or.inr ⟨rfl, by omega⟩ | exact Or.inr (Or.inl ⟨rfl, by omega⟩) | exact Or.inr (Or.inr ⟨rfl, by omega⟩) | exact ⟨rfl, by omega⟩ | omega | trivial | rfl | (exfalso; omega)) dX10_booked_22

def uX10_peak : List Cond := .code yX10_peak cX10_peak 4 (some .long) :: ([.constantLong RX10 243 (3), .methodLink RX10 85 yX10_in, .static yX10_in, .initialized RX10, .constantLong RX10 295 (24), .constantLong RX10 236 (-1), .methodLink RX10 297 yX10_canSee, .instanceMethod yX10_canSee, .selects RX10 yX10_canSee yX10_canSee, .constantLong RX10 238 (-2), .code yX10_in cX10_in 6 (some .boolean), .code yX10_canSee cX10_canSee 3 (some .boolean), .methodLink RX10 248 yX10_isSet, .instanceMethod yX10_isSet, .selects RX10 yX10_isSet yX10_isSet, .code yX10_isSet cX10_isSet 2 (some .boolean), .fieldLink RX10 173 "RiverModelModel" "isBuilt" "Z"] ++ wsX100)
set_option maxRecDepth 20000 in
theorem gu_X10_peak_X10_in_85 : GoodIn uX10_peak (va_wsS RX10 85 yX10_in uX10_in) := goodIn_r _ [2, 3, 4, 11] (by decide +kernel) (by decide +kernel)
set_option maxRecDepth 20000 in
theorem gu_X10_peak_X10_canSee_297 : GoodIn uX10_peak (wsV RX10 297 RX10 yX10_canSee uX10_canSee) := goodIn_r _ [7, 8, 9, 4, 12, 13, 14, 15, 4, 16, 17, 18, 19, 20, 21, 22, 23, 24, 25, 26, 27, 28, 29, 30, 31, 32, 33, 34, 35, 36, 37, 38, 39, 40, 41, 42, 43, 44, 45, 46, 47, 48, 49, 50, 51, 52, 53] (by decide +kernel) (by decide +kernel)
set_option maxHeartbeats 4000000 in
set_option maxRecDepth 100000 in
theorem c_X10_peak (l : Launch) (D : va_G) (t : Nat → Nat) (cI cL cC : ClassId) (a0 : Nat) (a1 : Int32) (a2 : Int32) (a3 : Int32) (k_a0 : t a0 = 40) : tM l yX10_peak uX10_peak 2 43 D (fF cI cL cC 0 0) (fF cI cL cC 0 0) t cI cL cC [.ref a0, .int a1, .int a2, .int a3] wr0 (pL (fun r => (r = (-1) ∧ (a1.toInt < 0 ∨ 3 < a1.toInt ∨ a2.toInt < 1 ∨ 24 < a2.toInt ∨ a3.toInt < (-1) ∨ 3 < a3.toInt)) ∨ (r = (-2) ∧ 0 ≤ a1.toInt ∧ a1.toInt ≤ 3 ∧ 1 ≤ a2.toInt ∧ a2.toInt ≤ 24 ∧ (-1) ≤ a3.toInt ∧ a3.toInt ≤ 3))) := by
  refine tM.ofW (cc := cX10_peak) (maxL := 4) (ret := (some .long)) (by decide) rfl (Nat.le_of_ble_eq_true rfl) ?_
  intro p e s m below meth c hx hb hr hml hown hts hlk H locs hG hK hE hS ls hl
  have hl : lv_has ls 4 [(0, .ref a0), (1, .int a1), (2, .int a2), (3, .int a3)] := hl
  skip
  refine lv_iload_n hx hb dX10_peak_0 rfl (lv_at hl 1 rfl) ?_
  refine lv_i2l (v := a1.toInt64) hx hb dX10_peak_1 rfl ?_
  refine lv_lconst (v := 0) hx hb dX10_peak_2 (by decide) ?_
  refine lv_ldc2 hx hb hown (hts (.constantLong RX10 243 (3)) (List.mem_of_getElem? (i := 1) rfl)) dX10_peak_3 ?_
  refine ty_calli ((W.runS (As := [.long a1.toInt64, .long 0, .long 3]) (rest := []) ⟨hx, hb, hml, hown, hts⟩ (c_in l D t cI cL cC 0 0 a1.toInt64 0 3 a1.toInt 0 3 (q_i2l _) (by decide) (by decide) ) (va_cwS 3 hts gu_X10_peak_X10_in_85 rfl rfl rfl (by decide +kernel) ⟨Nat.le_of_ble_eq_true rfl, Nat.le_of_ble_eq_true rfl⟩) (tP_S hG hE) rfl rfl hl.1 rfl (lv_room (Nat.le_of_ble_eq_true rfl)) dX10_peak_6 ⟨Nat.le_of_ble_eq_true rfl, Nat.le_of_ble_eq_true rfl⟩)) hS (fun _ h => h) (fun r_1 H locs hp_2 hG hS o_3 => ?_)
  rcases hp_2 with ⟨rfl, hc_280, hc_281⟩ | ⟨rfl, hc_282⟩
  · skip
    refine lv_if_eq (tgt := 38) hx hb dX10_peak_9 (by decide) (fun q => absurd q (by decide)) (fun _ => ?_)
    refine lv_iload_n hx hb dX10_peak_12 rfl (lv_at hl 2 rfl) ?_
    refine lv_pc (pc2 := 13) rfl ?_
    refine lv_i2l (v := a2.toInt64) hx hb dX10_peak_13 rfl ?_
    refine lv_lconst (v := 1) hx hb dX10_peak_14 (by decide) ?_
    refine lv_ldc2 hx hb hown (hts (.constantLong RX10 295 (24)) (List.mem_of_getElem? (i := 5) rfl)) dX10_peak_15 ?_
    refine ty_calli ((W.runS (As := [.long a2.toInt64, .long 1, .long 24]) (rest := []) ⟨hx, hb, hml, hown, hts⟩ (c_in l D t cI cL cC 0 0 a2.toInt64 1 24 a2.toInt 1 24 (q_i2l _) (by decide) (by decide) ) (va_cwS 3 hts gu_X10_peak_X10_in_85 rfl rfl rfl (by decide +kernel) ⟨Nat.le_of_ble_eq_true rfl, Nat.le_of_ble_eq_true rfl⟩) (tP_S hG hE) rfl rfl hl.1 rfl (lv_room (Nat.le_of_ble_eq_true rfl)) dX10_peak_18 ⟨Nat.le_of_ble_eq_true rfl, Nat.le_of_ble_eq_true rfl⟩)) hS (fun _ h => h) (fun r_4 H locs hp_5 hG hS o_6 => ?_)
    rcases hp_5 with ⟨rfl, hc_283, hc_284⟩ | ⟨rfl, hc_285⟩
    · skip
      refine lv_if_eq (tgt := 38) hx hb dX10_peak_21 (by decide) (fun q => absurd q (by decide)) (fun _ => ?_)
      refine lv_iload_n hx hb dX10_peak_24 rfl (lv_at hl 3 rfl) ?_
      refine lv_i2l (v := a3.toInt64) hx hb dX10_peak_25 rfl ?_
      refine lv_ldc2 hx hb hown (hts (.constantLong RX10 236 (-1)) (List.mem_of_getElem? (i := 6) rfl)) dX10_peak_26 ?_
      refine lv_pc (pc2 := 29) rfl ?_
      refine lv_ldc2 hx hb hown (hts (.constantLong RX10 243 (3)) (List.mem_of_getElem? (i := 1) rfl)) dX10_peak_29 ?_
      refine ty_calli ((W.runS (As := [.long a3.toInt64, .long (-1), .long 3]) (rest := []) ⟨hx, hb, hml, hown, hts⟩ (c_in l D t cI cL cC 0 0 a3.toInt64 (-1) 3 a3.toInt (-1) 3 (q_i2l _) (by decide) (by decide) ) (va_cwS 3 hts gu_X10_peak_X10_in_85 rfl rfl rfl (by decide +kernel) ⟨Nat.le_of_ble_eq_true rfl, Nat.le_of_ble_eq_true rfl⟩) (tP_S hG hE) rfl rfl hl.1 rfl (lv_room (Nat.le_of_ble_eq_true rfl)) dX10_peak_32 ⟨Nat.le_of_ble_eq_true rfl, Nat.le_of_ble_eq_true rfl⟩)) hS (fun _ h => h) (fun r_7 H locs hp_8 hG hS o_9 => ?_)
      rcases hp_8 with ⟨rfl, hc_286, hc_287⟩ | ⟨rfl, hc_288⟩
      · skip
        refine lv_if_ne (tgt := 42) hx hb dX10_peak_35 (by decide) (fun _ => ?_) (fun q => absurd q (by decide))
        refine lv_aload_n hx hb dX10_peak_42 rfl (lv_at hl 0 rfl) ?_
        refine lv_iload_n hx hb dX10_peak_43 rfl (lv_at hl 1 rfl) ?_
        refine lv_iload_n hx hb dX10_peak_44 rfl (lv_at hl 2 rfl) ?_
        obtain ⟨r_10, r_12, r_14, r_16, r_18, r_20, r_22, r_24, r_26, r_28, r_30, r_32, r_34, r_36, r_38, r_40, r_42, r_44, r_46, r_48, r_50, v_52, v_53, v_54, v_55, v_56, r_57, v_59, r_60, at_62, h_11, h_13, h_15, h_17, h_19, h_21, h_23, h_25, h_27, h_29, h_31, h_33, h_35, h_37, h_39, h_41, h_43, h_45, h_47, h_49, h_51, h_58, h_61⟩ := fF_o40 hG k_a0
        refine ty_calli ((W.runV (As := [.int a1, .int a2]) (rest := []) ⟨hx, hb, hml, hown, hts⟩ (c_X10_canSee l D t cI cL cC a0 a1 a2 k_a0) (cwV 2 hts gu_X10_peak_X10_canSee_297 rfl rfl rfl (by decide +kernel) ⟨Nat.le_of_ble_eq_true rfl, Nat.le_of_ble_eq_true rfl⟩) (tP_V hG hE at_62 rfl) rfl rfl hl.1 rfl (lv_room (Nat.le_of_ble_eq_true rfl)) dX10_peak_45 ⟨Nat.le_of_ble_eq_true rfl, Nat.le_of_ble_eq_true rfl⟩)) hS (fun _ h => h) (fun r_63 H locs hp_64 hG hS o_65 => ?_)
        have at_62 := va_at.keptC at_62 o_65 k_a0 rfl
        rcases hp_64 with rfl
        refine lv_if_eq (tgt := 61) hx hb dX10_peak_48 (by decide) (fun _ => ?_) (fun q => absurd (by decide) q)
        refine lv_pc (pc2 := 61) rfl ?_
        refine lv_ldc2 hx hb hown (hts (.constantLong RX10 238 (-2)) (List.mem_of_getElem? (i := 10) rfl)) dX10_peak_61 ?_
        exact ty_lret hx hb hr hlk hG hS (by first | exact Or.inl ⟨rfl, by omega⟩ | exact Or.inr ⟨rfl, by omega⟩ | exact Or.inr (Or.inl ⟨rfl, by omega⟩) | exact Or.inr (Or.inr ⟨rfl, by omega⟩) | exact ⟨rfl, by omega⟩ | omega | trivial | rfl | (exfalso; omega)) dX10_peak_64
      · skip
        refine lv_if_ne (tgt := 42) hx hb dX10_peak_35 (by decide) (fun q => absurd rfl q) (fun _ => ?_)
        refine lv_ldc2 hx hb hown (hts (.constantLong RX10 236 (-1)) (List.mem_of_getElem? (i := 6) rfl)) dX10_peak_38 ?_
        exact ty_lret hx hb hr hlk hG hS (by first | exact Or.inl ⟨rfl, by omega⟩ | exact Or.inr ⟨rfl, by omega⟩ | exact Or.inr (Or.inl ⟨rfl, by omega⟩) | exact Or.inr (Or.inr ⟨rfl, by omega⟩) | exact ⟨rfl, by omega⟩ | omega | trivial | rfl | (exfalso; omega)) dX10_peak_41
    · skip
      refine lv_if_eq (tgt := 38) hx hb dX10_peak_21 (by decide) (fun _ => ?_) (fun q => absurd (by decide) q)
      refine lv_ldc2 hx hb hown (hts (.constantLong RX10 236 (-1)) (List.mem_of_getElem? (i := 6) rfl)) dX10_peak_38 ?_
      exact ty_lret hx hb hr hlk hG hS (by first | exact Or.inl ⟨rfl, by omega⟩ | exact Or.inr ⟨rfl, by omega⟩ | exact Or.inr (Or.inl ⟨rfl, by omega⟩) | exact Or.inr (Or.inr ⟨rfl, by omega⟩) | exact ⟨rfl, by omega⟩ | omega | trivial | rfl | (exfalso; omega)) dX10_peak_41
  · skip
    refine lv_pc (pc2 := 9) rfl ?_
    refine lv_if_eq (tgt := 38) hx hb dX10_peak_9 (by decide) (fun _ => ?_) (fun q => absurd (by decide) q)
    refine lv_ldc2 hx hb hown (hts (.constantLong RX10 236 (-1)) (List.mem_of_getElem? (i := 6) rfl)) dX10_peak_38 ?_
    exact ty_lret hx hb hr hlk hG hS (by first | exact Or.inl ⟨rfl, by omega⟩ | exact Or.inr ⟨rfl, by omega⟩ | exact Or.inr (Or.inl ⟨rfl, by omega⟩) | exact Or.inr (Or.inr ⟨rfl, by omega⟩) | exact ⟨rfl, by omega⟩ | omega | trivial | rfl | (exfalso; omega)) dX10_peak_41

def uX10_best : List Cond := .code yX10_best cX10_best 14 (some .long) :: ([.constantLong RX10 243 (3), .methodLink RX10 85 yX10_in, .static yX10_in, .initialized RX10, .constantLong RX10 305 (6), .constantLong RX10 234 (15), .constantLong RX10 236 (-1), .methodLink RX10 297 yX10_canSee, .instanceMethod yX10_canSee, .selects RX10 yX10_canSee yX10_canSee, .constantLong RX10 238 (-2), .code yX10_in cX10_in 6 (some .boolean), .code yX10_canSee cX10_canSee 3 (some .boolean), .methodLink RX10 248 yX10_isSet, .instanceMethod yX10_isSet, .selects RX10 yX10_isSet yX10_isSet, .code yX10_isSet cX10_isSet 2 (some .boolean), .fieldLink RX10 173 "RiverModelModel" "isBuilt" "Z"] ++ wsX100)
set_option maxRecDepth 20000 in
theorem gu_X10_best_X10_in_85 : GoodIn uX10_best (va_wsS RX10 85 yX10_in uX10_in) := goodIn_r _ [2, 3, 4, 12] (by decide +kernel) (by decide +kernel)
set_option maxRecDepth 20000 in
theorem gu_X10_best_X10_canSee_297 : GoodIn uX10_best (wsV RX10 297 RX10 yX10_canSee uX10_canSee) := goodIn_r _ [8, 9, 10, 4, 13, 14, 15, 16, 4, 17, 18, 19, 20, 21, 22, 23, 24, 25, 26, 27, 28, 29, 30, 31, 32, 33, 34, 35, 36, 37, 38, 39, 40, 41, 42, 43, 44, 45, 46, 47, 48, 49, 50, 51, 52, 53, 54] (by decide +kernel) (by decide +kernel)
set_option maxHeartbeats 4000000 in
set_option maxRecDepth 100000 in
theorem c_X10_best (l : Launch) (D : va_G) (t : Nat → Nat) (cI cL cC : ClassId) (a0 : Nat) (a1 : Int32) (a2 : Int32) (a3 : Int32) (a4 : Int32) (a5 : Int64) (a6 : Int32) (k_a0 : t a0 = 40) : tM l yX10_best uX10_best 2 43 D (fF cI cL cC 0 0) (fF cI cL cC 0 0) t cI cL cC [.ref a0, .int a1, .int a2, .int a3, .int a4, .long a5, .int a6] wr0 (pL (fun r => (r = (-1) ∧ (a1.toInt < 0 ∨ 3 < a1.toInt ∨ a2.toInt < 1 ∨ 6 < a2.toInt ∨ a3.toInt < 0 ∨ 3 < a3.toInt ∨ a4.toInt < 0 ∨ 15 < a4.toInt ∨ a6.toInt < (-1) ∨ 3 < a6.toInt)) ∨ (r = (-2) ∧ 0 ≤ a1.toInt ∧ a1.toInt ≤ 3 ∧ 1 ≤ a2.toInt ∧ a2.toInt ≤ 6 ∧ 0 ≤ a3.toInt ∧ a3.toInt ≤ 3 ∧ 0 ≤ a4.toInt ∧ a4.toInt ≤ 15 ∧ (-1) ≤ a6.toInt ∧ a6.toInt ≤ 3))) := by
  refine tM.ofW (cc := cX10_best) (maxL := 14) (ret := (some .long)) (by decide) rfl (Nat.le_of_ble_eq_true rfl) ?_
  intro p e s m below meth c hx hb hr hml hown hts hlk H locs hG hK hE hS ls hl
  have hl : lv_has ls 14 [(0, .ref a0), (1, .int a1), (2, .int a2), (3, .int a3), (4, .int a4), (5, .long a5), (7, .int a6)] := hl
  skip
  refine lv_iload_n hx hb dX10_best_0 rfl (lv_at hl 1 rfl) ?_
  refine lv_i2l (v := a1.toInt64) hx hb dX10_best_1 rfl ?_
  refine lv_lconst (v := 0) hx hb dX10_best_2 (by decide) ?_
  refine lv_ldc2 hx hb hown (hts (.constantLong RX10 243 (3)) (List.mem_of_getElem? (i := 1) rfl)) dX10_best_3 ?_
  refine ty_calli ((W.runS (As := [.long a1.toInt64, .long 0, .long 3]) (rest := []) ⟨hx, hb, hml, hown, hts⟩ (c_in l D t cI cL cC 0 0 a1.toInt64 0 3 a1.toInt 0 3 (q_i2l _) (by decide) (by decide) ) (va_cwS 3 hts gu_X10_best_X10_in_85 rfl rfl rfl (by decide +kernel) ⟨Nat.le_of_ble_eq_true rfl, Nat.le_of_ble_eq_true rfl⟩) (tP_S hG hE) rfl rfl hl.1 rfl (lv_room (Nat.le_of_ble_eq_true rfl)) dX10_best_6 ⟨Nat.le_of_ble_eq_true rfl, Nat.le_of_ble_eq_true rfl⟩)) hS (fun _ h => h) (fun r_1 H locs hp_2 hG hS o_3 => ?_)
  rcases hp_2 with ⟨rfl, hc_289, hc_290⟩ | ⟨rfl, hc_291⟩
  · skip
    refine lv_if_eq (tgt := 64) hx hb dX10_best_9 (by decide) (fun q => absurd q (by decide)) (fun _ => ?_)
    refine lv_iload_n hx hb dX10_best_12 rfl (lv_at hl 2 rfl) ?_
    refine lv_pc (pc2 := 13) rfl ?_
    refine lv_i2l (v := a2.toInt64) hx hb dX10_best_13 rfl ?_
    refine lv_lconst (v := 1) hx hb dX10_best_14 (by decide) ?_
    refine lv_ldc2 hx hb hown (hts (.constantLong RX10 305 (6)) (List.mem_of_getElem? (i := 5) rfl)) dX10_best_15 ?_
    refine ty_calli ((W.runS (As := [.long a2.toInt64, .long 1, .long 6]) (rest := []) ⟨hx, hb, hml, hown, hts⟩ (c_in l D t cI cL cC 0 0 a2.toInt64 1 6 a2.toInt 1 6 (q_i2l _) (by decide) (by decide) ) (va_cwS 3 hts gu_X10_best_X10_in_85 rfl rfl rfl (by decide +kernel) ⟨Nat.le_of_ble_eq_true rfl, Nat.le_of_ble_eq_true rfl⟩) (tP_S hG hE) rfl rfl hl.1 rfl (lv_room (Nat.le_of_ble_eq_true rfl)) dX10_best_18 ⟨Nat.le_of_ble_eq_true rfl, Nat.le_of_ble_eq_true rfl⟩)) hS (fun _ h => h) (fun r_4 H locs hp_5 hG hS o_6 => ?_)
    rcases hp_5 with ⟨rfl, hc_292, hc_293⟩ | ⟨rfl, hc_294⟩
    · skip
      refine lv_if_eq (tgt := 64) hx hb dX10_best_21 (by decide) (fun q => absurd q (by decide)) (fun _ => ?_)
      refine lv_iload_n hx hb dX10_best_24 rfl (lv_at hl 3 rfl) ?_
      refine lv_i2l (v := a3.toInt64) hx hb dX10_best_25 rfl ?_
      refine lv_lconst (v := 0) hx hb dX10_best_26 (by decide) ?_
      refine lv_pc (pc2 := 27) rfl ?_
      refine lv_ldc2 hx hb hown (hts (.constantLong RX10 243 (3)) (List.mem_of_getElem? (i := 1) rfl)) dX10_best_27 ?_
      refine ty_calli ((W.runS (As := [.long a3.toInt64, .long 0, .long 3]) (rest := []) ⟨hx, hb, hml, hown, hts⟩ (c_in l D t cI cL cC 0 0 a3.toInt64 0 3 a3.toInt 0 3 (q_i2l _) (by decide) (by decide) ) (va_cwS 3 hts gu_X10_best_X10_in_85 rfl rfl rfl (by decide +kernel) ⟨Nat.le_of_ble_eq_true rfl, Nat.le_of_ble_eq_true rfl⟩) (tP_S hG hE) rfl rfl hl.1 rfl (lv_room (Nat.le_of_ble_eq_true rfl)) dX10_best_30 ⟨Nat.le_of_ble_eq_true rfl, Nat.le_of_ble_eq_true rfl⟩)) hS (fun _ h => h) (fun r_7 H locs hp_8 hG hS o_9 => ?_)
      rcases hp_8 with ⟨rfl, hc_295, hc_296⟩ | ⟨rfl, hc_297⟩
      · skip
        refine lv_if_eq (tgt := 64) hx hb dX10_best_33 (by decide) (fun q => absurd q (by decide)) (fun _ => ?_)
        refine lv_iload hx hb dX10_best_36 (lv_at hl 4 rfl) ?_
        refine lv_i2l (v := a4.toInt64) hx hb dX10_best_38 rfl ?_
        refine lv_lconst (v := 0) hx hb dX10_best_39 (by decide) ?_
        refine lv_ldc2 hx hb hown (hts (.constantLong RX10 234 (15)) (List.mem_of_getElem? (i := 6) rfl)) dX10_best_40 ?_
        refine ty_calli ((W.runS (As := [.long a4.toInt64, .long 0, .long 15]) (rest := []) ⟨hx, hb, hml, hown, hts⟩ (c_in l D t cI cL cC 0 0 a4.toInt64 0 15 a4.toInt 0 15 (q_i2l _) (by decide) (by decide) ) (va_cwS 3 hts gu_X10_best_X10_in_85 rfl rfl rfl (by decide +kernel) ⟨Nat.le_of_ble_eq_true rfl, Nat.le_of_ble_eq_true rfl⟩) (tP_S hG hE) rfl rfl hl.1 rfl (lv_room (Nat.le_of_ble_eq_true rfl)) dX10_best_43 ⟨Nat.le_of_ble_eq_true rfl, Nat.le_of_ble_eq_true rfl⟩)) hS (fun _ h => h) (fun r_10 H locs hp_11 hG hS o_12 => ?_)
        rcases hp_11 with ⟨rfl, hc_298, hc_299⟩ | ⟨rfl, hc_300⟩
        · skip
          refine lv_pc (pc2 := 46) rfl ?_
          refine lv_if_eq (tgt := 64) hx hb dX10_best_46 (by decide) (fun q => absurd q (by decide)) (fun _ => ?_)
          refine lv_iload hx hb dX10_best_49 (lv_at hl 6 rfl) ?_
          refine lv_i2l (v := a6.toInt64) hx hb dX10_best_51 rfl ?_
          refine lv_ldc2 hx hb hown (hts (.constantLong RX10 236 (-1)) (List.mem_of_getElem? (i := 7) rfl)) dX10_best_52 ?_
          refine lv_ldc2 hx hb hown (hts (.constantLong RX10 243 (3)) (List.mem_of_getElem? (i := 1) rfl)) dX10_best_55 ?_
          refine ty_calli ((W.runS (As := [.long a6.toInt64, .long (-1), .long 3]) (rest := []) ⟨hx, hb, hml, hown, hts⟩ (c_in l D t cI cL cC 0 0 a6.toInt64 (-1) 3 a6.toInt (-1) 3 (q_i2l _) (by decide) (by decide) ) (va_cwS 3 hts gu_X10_best_X10_in_85 rfl rfl rfl (by decide +kernel) ⟨Nat.le_of_ble_eq_true rfl, Nat.le_of_ble_eq_true rfl⟩) (tP_S hG hE) rfl rfl hl.1 rfl (lv_room (Nat.le_of_ble_eq_true rfl)) dX10_best_58 ⟨Nat.le_of_ble_eq_true rfl, Nat.le_of_ble_eq_true rfl⟩)) hS (fun _ h => h) (fun r_13 H locs hp_14 hG hS o_15 => ?_)
          rcases hp_14 with ⟨rfl, hc_301, hc_302⟩ | ⟨rfl, hc_303⟩
          · skip
            refine lv_if_ne (tgt := 68) hx hb dX10_best_61 (by decide) (fun _ => ?_) (fun q => absurd q (by decide))
            refine lv_aload_n hx hb dX10_best_68 rfl (lv_at hl 0 rfl) ?_
            refine lv_pc (pc2 := 69) rfl ?_
            refine lv_iload_n hx hb dX10_best_69 rfl (lv_at hl 3 rfl) ?_
            refine lv_iconst (v := 4) hx hb dX10_best_70 (by decide) ?_
            refine lv_iload_n hx hb dX10_best_71 rfl (lv_at hl 2 rfl) ?_
            refine lv_imul hx hb dX10_best_72 ?_
            refine lv_topi (fun x_16 e_17 => ?_)
            have i_x_16 : x_16.toInt = 4 * a2.toInt := by rw [e_17]; exact (q_mul (by rw [show (4 : Int32).toInt = 4 by decide]; omega) (by rw [show (4 : Int32).toInt = 4 by decide]; omega)).trans (by rw [show (4 : Int32).toInt = 4 by decide])
            obtain ⟨r_18, r_20, r_22, r_24, r_26, r_28, r_30, r_32, r_34, r_36, r_38, r_40, r_42, r_44, r_46, r_48, r_50, r_52, r_54, r_56, r_58, v_60, v_61, v_62, v_63, v_64, r_65, v_67, r_68, at_70, h_19, h_21, h_23, h_25, h_27, h_29, h_31, h_33, h_35, h_37, h_39, h_41, h_43, h_45, h_47, h_49, h_51, h_53, h_55, h_57, h_59, h_66, h_69⟩ := fF_o40 hG k_a0
            refine ty_calli ((W.runV (As := [.int a3, .int x_16]) (rest := []) ⟨hx, hb, hml, hown, hts⟩ (c_X10_canSee l D t cI cL cC a0 a3 x_16 k_a0) (cwV 2 hts gu_X10_best_X10_canSee_297 rfl rfl rfl (by decide +kernel) ⟨Nat.le_of_ble_eq_true rfl, Nat.le_of_ble_eq_true rfl⟩) (tP_V hG hE at_70 rfl) rfl rfl hl.1 rfl (lv_room (Nat.le_of_ble_eq_true rfl)) dX10_best_73 ⟨Nat.le_of_ble_eq_true rfl, Nat.le_of_ble_eq_true rfl⟩)) hS (fun _ h => h) (fun r_71 H locs hp_72 hG hS o_73 => ?_)
            have at_70 := va_at.keptC at_70 o_73 k_a0 rfl
            rcases hp_72 with rfl
            refine lv_if_eq (tgt := 98) hx hb dX10_best_76 (by decide) (fun _ => ?_) (fun q => absurd (by decide) q)
            refine lv_ldc2 hx hb hown (hts (.constantLong RX10 238 (-2)) (List.mem_of_getElem? (i := 11) rfl)) dX10_best_98 ?_
            exact ty_lret hx hb hr hlk hG hS (by first | exact Or.inl ⟨rfl, by omega⟩ | exact Or.inr ⟨rfl, by omega⟩ | exact Or.inr (Or.inl ⟨rfl, by omega⟩) | exact Or.inr (Or.inr ⟨rfl, by omega⟩) | exact ⟨rfl, by omega⟩ | omega | trivial | rfl | (exfalso; omega)) dX10_best_101
          · skip
            refine lv_pc (pc2 := 61) rfl ?_
            refine lv_if_ne (tgt := 68) hx hb dX10_best_61 (by decide) (fun q => absurd rfl q) (fun _ => ?_)
            refine lv_ldc2 hx hb hown (hts (.constantLong RX10 236 (-1)) (List.mem_of_getElem? (i := 7) rfl)) dX10_best_64 ?_
            exact ty_lret hx hb hr hlk hG hS (by first | exact Or.inl ⟨rfl, by omega⟩ | exact Or.inr ⟨rfl, by omega⟩ | exact Or.inr (Or.inl ⟨rfl, by omega⟩) | exact Or.inr (Or.inr ⟨rfl, by omega⟩) | exact ⟨rfl, by omega⟩ | omega | trivial | rfl | (exfalso; omega)) dX10_best_67
        · skip
          refine lv_if_eq (tgt := 64) hx hb dX10_best_46 (by decide) (fun _ => ?_) (fun q => absurd (by decide) q)
          refine lv_ldc2 hx hb hown (hts (.constantLong RX10 236 (-1)) (List.mem_of_getElem? (i := 7) rfl)) dX10_best_64 ?_
          exact ty_lret hx hb hr hlk hG hS (by first | exact Or.inl ⟨rfl, by omega⟩ | exact Or.inr ⟨rfl, by omega⟩ | exact Or.inr (Or.inl ⟨rfl, by omega⟩) | exact Or.inr (Or.inr ⟨rfl, by omega⟩) | exact ⟨rfl, by omega⟩ | omega | trivial | rfl | (exfalso; omega)) dX10_best_67
      · skip
        refine lv_if_eq (tgt := 64) hx hb dX10_best_33 (by decide) (fun _ => ?_) (fun q => absurd (by decide) q)
        refine lv_ldc2 hx hb hown (hts (.constantLong RX10 236 (-1)) (List.mem_of_getElem? (i := 7) rfl)) dX10_best_64 ?_
        refine lv_pc (pc2 := 67) rfl ?_
        exact ty_lret hx hb hr hlk hG hS (by first | exact Or.inl ⟨rfl, by omega⟩ | exact Or.inr ⟨rfl, by omega⟩ | exact Or.inr (Or.inl ⟨rfl, by omega⟩) | exact Or.inr (Or.inr ⟨rfl, by omega⟩) | exact ⟨rfl, by omega⟩ | omega | trivial | rfl | (exfalso; omega)) dX10_best_67
    · skip
      refine lv_if_eq (tgt := 64) hx hb dX10_best_21 (by decide) (fun _ => ?_) (fun q => absurd (by decide) q)
      refine lv_ldc2 hx hb hown (hts (.constantLong RX10 236 (-1)) (List.mem_of_getElem? (i := 7) rfl)) dX10_best_64 ?_
      exact ty_lret hx hb hr hlk hG hS (by first | exact Or.inl ⟨rfl, by omega⟩ | exact Or.inr ⟨rfl, by omega⟩ | exact Or.inr (Or.inl ⟨rfl, by omega⟩) | exact Or.inr (Or.inr ⟨rfl, by omega⟩) | exact ⟨rfl, by omega⟩ | omega | trivial | rfl | (exfalso; omega)) dX10_best_67
  · skip
    refine lv_if_eq (tgt := 64) hx hb dX10_best_9 (by decide) (fun _ => ?_) (fun q => absurd (by decide) q)
    refine lv_ldc2 hx hb hown (hts (.constantLong RX10 236 (-1)) (List.mem_of_getElem? (i := 7) rfl)) dX10_best_64 ?_
    exact ty_lret hx hb hr hlk hG hS (by first | exact Or.inl ⟨rfl, by omega⟩ | exact Or.inr ⟨rfl, by omega⟩ | exact Or.inr (Or.inl ⟨rfl, by omega⟩) | exact Or.inr (Or.inr ⟨rfl, by omega⟩) | exact ⟨rfl, by omega⟩ | omega | trivial | rfl | (exfalso; omega)) dX10_best_67

def uX10_swap : List Cond := .code yX10_swap cX10_swap 5 (some .int) :: ([.constantLong RX10 194 (39), .methodLink RX10 85 yX10_in, .static yX10_in, .initialized RX10, .fieldLink RX10 173 "RiverModelModel" "isBuilt" "Z", .code yX10_in cX10_in 6 (some .boolean)] ++ wsX100)
set_option maxRecDepth 20000 in
theorem gu_X10_swap_X10_in_85 : GoodIn uX10_swap (va_wsS RX10 85 yX10_in uX10_in) := goodIn_r _ [2, 3, 4, 6] (by decide +kernel) (by decide +kernel)
set_option maxHeartbeats 4000000 in
set_option maxRecDepth 100000 in
theorem c_X10_swap (l : Launch) (D : va_G) (t : Nat → Nat) (cI cL cC : ClassId) (a0 : Nat) (a1 : Int32) (k_a0 : t a0 = 40) : tM l yX10_swap uX10_swap 1 25 D (fF cI cL cC 0 0) (fF cI cL cC 0 0) t cI cL cC [.ref a0, .int a1] wr0 (pI (fun r => (r = (-1) ∧ (a1.toInt < 0 ∨ 39 < a1.toInt)) ∨ (r = (-2) ∧ 0 ≤ a1.toInt ∧ a1.toInt ≤ 39))) := by
  refine tM.ofW (cc := cX10_swap) (maxL := 5) (ret := (some .int)) (by decide) rfl (Nat.le_of_ble_eq_true rfl) ?_
  intro p e s m below meth c hx hb hr hml hown hts hlk H locs hG hK hE hS ls hl
  have hl : lv_has ls 5 [(0, .ref a0), (1, .int a1)] := hl
  have in10 : ∀ w ∈ wsX100, w ∈ uX10_swap := fun w h => List.mem_cons_of_mem _ (List.mem_append_right _ h)
  refine lv_iload_n hx hb dX10_swap_0 rfl (lv_at hl 1 rfl) ?_
  refine lv_i2l (v := a1.toInt64) hx hb dX10_swap_1 rfl ?_
  refine lv_lconst (v := 0) hx hb dX10_swap_2 (by decide) ?_
  refine lv_ldc2 hx hb hown (hts (.constantLong RX10 194 (39)) (List.mem_of_getElem? (i := 1) rfl)) dX10_swap_3 ?_
  refine ty_calli ((W.runS (As := [.long a1.toInt64, .long 0, .long 39]) (rest := []) ⟨hx, hb, hml, hown, hts⟩ (c_in l D t cI cL cC 0 0 a1.toInt64 0 39 a1.toInt 0 39 (q_i2l _) (by decide) (by decide) ) (va_cwS 3 hts gu_X10_swap_X10_in_85 rfl rfl rfl (by decide +kernel) ⟨Nat.le_of_ble_eq_true rfl, Nat.le_of_ble_eq_true rfl⟩) (tP_S hG hE) rfl rfl hl.1 rfl (lv_room (Nat.le_of_ble_eq_true rfl)) dX10_swap_6 ⟨Nat.le_of_ble_eq_true rfl, Nat.le_of_ble_eq_true rfl⟩)) hS (fun _ h => h) (fun r_1 H locs hp_2 hG hS o_3 => ?_)
  rcases hp_2 with ⟨rfl, hc_304, hc_305⟩ | ⟨rfl, hc_306⟩
  · skip
    refine lv_if_ne (tgt := 14) hx hb dX10_swap_9 (by decide) (fun _ => ?_) (fun q => absurd q (by decide))
    refine lv_aload_n hx hb dX10_swap_14 rfl (lv_at hl 0 rfl) ?_
    refine lv_pc (pc2 := 15) rfl ?_
    obtain ⟨r_4, r_6, r_8, r_10, r_12, r_14, r_16, r_18, r_20, r_22, r_24, r_26, r_28, r_30, r_32, r_34, r_36, r_38, r_40, r_42, r_44, v_46, v_47, v_48, v_49, v_50, r_51, v_53, r_54, at_56, h_5, h_7, h_9, h_11, h_13, h_15, h_17, h_19, h_21, h_23, h_25, h_27, h_29, h_31, h_33, h_35, h_37, h_39, h_41, h_43, h_45, h_52, h_55⟩ := fF_o40 hG k_a0
    refine va_get (D := D) (ci := 9) (v := .int 0) (C := RX10) (T := TX10) (N := 36) hx hb hts in10 hown hK (va_one at_56) 0 rfl rfl 2 (by decide) (hts (.fieldLink RX10 173 "RiverModelModel" "isBuilt" "Z") (List.mem_of_getElem? (i := 5) rfl)) (fun _ h9 => h9) rfl dX10_swap_15 ?_
    refine lv_if_eq (tgt := 29) hx hb dX10_swap_18 (by decide) (fun _ => ?_) (fun q => absurd (by decide) q)
    refine lv_bipush (v := (-2)) hx hb dX10_swap_29 (by decide) ?_
    exact ty_iret hx hb hr hlk hG hS (by first | exact Or.inl ⟨rfl, by omega⟩ | exact Or.inr ⟨rfl, by omega⟩ | exact Or.inr (Or.inl ⟨rfl, by omega⟩) | exact Or.inr (Or.inr ⟨rfl, by omega⟩) | exact ⟨rfl, by omega⟩ | omega | trivial | rfl | (exfalso; omega)) dX10_swap_31
  · skip
    refine lv_if_ne (tgt := 14) hx hb dX10_swap_9 (by decide) (fun q => absurd rfl q) (fun _ => ?_)
    refine lv_iconst (v := (-1)) hx hb dX10_swap_12 (by decide) ?_
    exact ty_iret hx hb hr hlk hG hS (by first | exact Or.inl ⟨rfl, by omega⟩ | exact Or.inr ⟨rfl, by omega⟩ | exact Or.inr (Or.inl ⟨rfl, by omega⟩) | exact Or.inr (Or.inr ⟨rfl, by omega⟩) | exact ⟨rfl, by omega⟩ | omega | trivial | rfl | (exfalso; omega)) dX10_swap_13

def uX10_swapped : List Cond := .code yX10_swapped cX10_swapped 8 (some .long) :: ([.constantLong RX10 243 (3), .methodLink RX10 85 yX10_in, .static yX10_in, .initialized RX10, .constantLong RX10 229 (96), .methodLink RX10 248 yX10_isSet, .instanceMethod yX10_isSet, .selects RX10 yX10_isSet yX10_isSet, .constantLong RX10 238 (-2), .constantLong RX10 236 (-1), .code yX10_in cX10_in 6 (some .boolean), .code yX10_isSet cX10_isSet 2 (some .boolean), .fieldLink RX10 173 "RiverModelModel" "isBuilt" "Z"] ++ wsX100)
set_option maxRecDepth 20000 in
theorem gu_X10_swapped_X10_in_85 : GoodIn uX10_swapped (va_wsS RX10 85 yX10_in uX10_in) := goodIn_r _ [2, 3, 4, 11] (by decide +kernel) (by decide +kernel)
set_option maxRecDepth 20000 in
theorem gu_X10_swapped_X10_isSet_248 : GoodIn uX10_swapped (wsV RX10 248 RX10 yX10_isSet uX10_isSet) := goodIn_r _ [6, 7, 8, 4, 12, 13, 14, 15, 16, 17, 18, 19, 20, 21, 22, 23, 24, 25, 26, 27, 28, 29, 30, 31, 32, 33, 34, 35, 36, 37, 38, 39, 40, 41, 42, 43, 44, 45, 46, 47, 48, 49] (by decide +kernel) (by decide +kernel)
set_option maxHeartbeats 4000000 in
set_option maxRecDepth 100000 in
theorem c_X10_swapped (l : Launch) (D : va_G) (t : Nat → Nat) (cI cL cC : ClassId) (a0 : Nat) (a1 : Int32) (a2 : Int32) (a3 : Int32) (k_a0 : t a0 = 40) : tM l yX10_swapped uX10_swapped 1 25 D (fF cI cL cC 0 0) (fF cI cL cC 0 0) t cI cL cC [.ref a0, .int a1, .int a2, .int a3] wr0 (pL (fun r => (r = (-1) ∧ (a1.toInt < 0 ∨ 3 < a1.toInt ∨ a2.toInt < 1 ∨ 96 < a2.toInt ∨ a3.toInt < 0 ∨ 1 < a3.toInt)) ∨ (r = (-2) ∧ 0 ≤ a1.toInt ∧ a1.toInt ≤ 3 ∧ 1 ≤ a2.toInt ∧ a2.toInt ≤ 96 ∧ 0 ≤ a3.toInt ∧ a3.toInt ≤ 1))) := by
  refine tM.ofW (cc := cX10_swapped) (maxL := 8) (ret := (some .long)) (by decide) rfl (Nat.le_of_ble_eq_true rfl) ?_
  intro p e s m below meth c hx hb hr hml hown hts hlk H locs hG hK hE hS ls hl
  have hl : lv_has ls 8 [(0, .ref a0), (1, .int a1), (2, .int a2), (3, .int a3)] := hl
  skip
  refine lv_iload_n hx hb dX10_swapped_0 rfl (lv_at hl 1 rfl) ?_
  refine lv_i2l (v := a1.toInt64) hx hb dX10_swapped_1 rfl ?_
  refine lv_lconst (v := 0) hx hb dX10_swapped_2 (by decide) ?_
  refine lv_ldc2 hx hb hown (hts (.constantLong RX10 243 (3)) (List.mem_of_getElem? (i := 1) rfl)) dX10_swapped_3 ?_
  refine ty_calli ((W.runS (As := [.long a1.toInt64, .long 0, .long 3]) (rest := []) ⟨hx, hb, hml, hown, hts⟩ (c_in l D t cI cL cC 0 0 a1.toInt64 0 3 a1.toInt 0 3 (q_i2l _) (by decide) (by decide) ) (va_cwS 3 hts gu_X10_swapped_X10_in_85 rfl rfl rfl (by decide +kernel) ⟨Nat.le_of_ble_eq_true rfl, Nat.le_of_ble_eq_true rfl⟩) (tP_S hG hE) rfl rfl hl.1 rfl (lv_room (Nat.le_of_ble_eq_true rfl)) dX10_swapped_6 ⟨Nat.le_of_ble_eq_true rfl, Nat.le_of_ble_eq_true rfl⟩)) hS (fun _ h => h) (fun r_1 H locs hp_2 hG hS o_3 => ?_)
  rcases hp_2 with ⟨rfl, hc_307, hc_308⟩ | ⟨rfl, hc_309⟩
  · skip
    refine lv_if_eq (tgt := 34) hx hb dX10_swapped_9 (by decide) (fun q => absurd q (by decide)) (fun _ => ?_)
    refine lv_iload_n hx hb dX10_swapped_12 rfl (lv_at hl 2 rfl) ?_
    refine lv_pc (pc2 := 13) rfl ?_
    refine lv_i2l (v := a2.toInt64) hx hb dX10_swapped_13 rfl ?_
    refine lv_lconst (v := 1) hx hb dX10_swapped_14 (by decide) ?_
    refine lv_ldc2 hx hb hown (hts (.constantLong RX10 229 (96)) (List.mem_of_getElem? (i := 5) rfl)) dX10_swapped_15 ?_
    refine ty_calli ((W.runS (As := [.long a2.toInt64, .long 1, .long 96]) (rest := []) ⟨hx, hb, hml, hown, hts⟩ (c_in l D t cI cL cC 0 0 a2.toInt64 1 96 a2.toInt 1 96 (q_i2l _) (by decide) (by decide) ) (va_cwS 3 hts gu_X10_swapped_X10_in_85 rfl rfl rfl (by decide +kernel) ⟨Nat.le_of_ble_eq_true rfl, Nat.le_of_ble_eq_true rfl⟩) (tP_S hG hE) rfl rfl hl.1 rfl (lv_room (Nat.le_of_ble_eq_true rfl)) dX10_swapped_18 ⟨Nat.le_of_ble_eq_true rfl, Nat.le_of_ble_eq_true rfl⟩)) hS (fun _ h => h) (fun r_4 H locs hp_5 hG hS o_6 => ?_)
    rcases hp_5 with ⟨rfl, hc_310, hc_311⟩ | ⟨rfl, hc_312⟩
    · skip
      refine lv_if_eq (tgt := 34) hx hb dX10_swapped_21 (by decide) (fun q => absurd q (by decide)) (fun _ => ?_)
      refine lv_iload_n hx hb dX10_swapped_24 rfl (lv_at hl 3 rfl) ?_
      refine lv_i2l (v := a3.toInt64) hx hb dX10_swapped_25 rfl ?_
      refine lv_lconst (v := 0) hx hb dX10_swapped_26 (by decide) ?_
      refine lv_pc (pc2 := 27) rfl ?_
      refine lv_lconst (v := 1) hx hb dX10_swapped_27 (by decide) ?_
      refine ty_calli ((W.runS (As := [.long a3.toInt64, .long 0, .long 1]) (rest := []) ⟨hx, hb, hml, hown, hts⟩ (c_in l D t cI cL cC 0 0 a3.toInt64 0 1 a3.toInt 0 1 (q_i2l _) (by decide) (by decide) ) (va_cwS 3 hts gu_X10_swapped_X10_in_85 rfl rfl rfl (by decide +kernel) ⟨Nat.le_of_ble_eq_true rfl, Nat.le_of_ble_eq_true rfl⟩) (tP_S hG hE) rfl rfl hl.1 rfl (lv_room (Nat.le_of_ble_eq_true rfl)) dX10_swapped_28 ⟨Nat.le_of_ble_eq_true rfl, Nat.le_of_ble_eq_true rfl⟩)) hS (fun _ h => h) (fun r_7 H locs hp_8 hG hS o_9 => ?_)
      rcases hp_8 with ⟨rfl, hc_313, hc_314⟩ | ⟨rfl, hc_315⟩
      · skip
        refine lv_if_ne (tgt := 38) hx hb dX10_swapped_31 (by decide) (fun _ => ?_) (fun q => absurd q (by decide))
        refine lv_aload_n hx hb dX10_swapped_38 rfl (lv_at hl 0 rfl) ?_
        refine lv_iload_n hx hb dX10_swapped_39 rfl (lv_at hl 1 rfl) ?_
        obtain ⟨r_10, r_12, r_14, r_16, r_18, r_20, r_22, r_24, r_26, r_28, r_30, r_32, r_34, r_36, r_38, r_40, r_42, r_44, r_46, r_48, r_50, v_52, v_53, v_54, v_55, v_56, r_57, v_59, r_60, at_62, h_11, h_13, h_15, h_17, h_19, h_21, h_23, h_25, h_27, h_29, h_31, h_33, h_35, h_37, h_39, h_41, h_43, h_45, h_47, h_49, h_51, h_58, h_61⟩ := fF_o40 hG k_a0
        refine ty_calli ((W.runV (As := [.int a1]) (rest := []) ⟨hx, hb, hml, hown, hts⟩ (c_X10_isSet l D t cI cL cC a0 a1 k_a0) (cwV 1 hts gu_X10_swapped_X10_isSet_248 rfl rfl rfl (by decide +kernel) ⟨Nat.le_of_ble_eq_true rfl, Nat.le_of_ble_eq_true rfl⟩) (tP_V hG hE at_62 rfl) rfl rfl hl.1 rfl (lv_room (Nat.le_of_ble_eq_true rfl)) dX10_swapped_40 ⟨Nat.le_of_ble_eq_true rfl, Nat.le_of_ble_eq_true rfl⟩)) hS (fun _ h => h) (fun r_63 H locs hp_64 hG hS o_65 => ?_)
        have at_62 := va_at.keptC at_62 o_65 k_a0 rfl
        rcases hp_64 with rfl
        refine lv_if_eq (tgt := 53) hx hb dX10_swapped_43 (by decide) (fun _ => ?_) (fun q => absurd (by decide) q)
        refine lv_ldc2 hx hb hown (hts (.constantLong RX10 238 (-2)) (List.mem_of_getElem? (i := 9) rfl)) dX10_swapped_53 ?_
        refine lv_pc (pc2 := 56) rfl ?_
        exact ty_lret hx hb hr hlk hG hS (by first | exact Or.inl ⟨rfl, by omega⟩ | exact Or.inr ⟨rfl, by omega⟩ | exact Or.inr (Or.inl ⟨rfl, by omega⟩) | exact Or.inr (Or.inr ⟨rfl, by omega⟩) | exact ⟨rfl, by omega⟩ | omega | trivial | rfl | (exfalso; omega)) dX10_swapped_56
      · skip
        refine lv_if_ne (tgt := 38) hx hb dX10_swapped_31 (by decide) (fun q => absurd rfl q) (fun _ => ?_)
        refine lv_ldc2 hx hb hown (hts (.constantLong RX10 236 (-1)) (List.mem_of_getElem? (i := 10) rfl)) dX10_swapped_34 ?_
        exact ty_lret hx hb hr hlk hG hS (by first | exact Or.inl ⟨rfl, by omega⟩ | exact Or.inr ⟨rfl, by omega⟩ | exact Or.inr (Or.inl ⟨rfl, by omega⟩) | exact Or.inr (Or.inr ⟨rfl, by omega⟩) | exact ⟨rfl, by omega⟩ | omega | trivial | rfl | (exfalso; omega)) dX10_swapped_37
    · skip
      refine lv_if_eq (tgt := 34) hx hb dX10_swapped_21 (by decide) (fun _ => ?_) (fun q => absurd (by decide) q)
      refine lv_ldc2 hx hb hown (hts (.constantLong RX10 236 (-1)) (List.mem_of_getElem? (i := 10) rfl)) dX10_swapped_34 ?_
      exact ty_lret hx hb hr hlk hG hS (by first | exact Or.inl ⟨rfl, by omega⟩ | exact Or.inr ⟨rfl, by omega⟩ | exact Or.inr (Or.inl ⟨rfl, by omega⟩) | exact Or.inr (Or.inr ⟨rfl, by omega⟩) | exact ⟨rfl, by omega⟩ | omega | trivial | rfl | (exfalso; omega)) dX10_swapped_37
  · skip
    refine lv_if_eq (tgt := 34) hx hb dX10_swapped_9 (by decide) (fun _ => ?_) (fun q => absurd (by decide) q)
    refine lv_pc (pc2 := 34) rfl ?_
    refine lv_ldc2 hx hb hown (hts (.constantLong RX10 236 (-1)) (List.mem_of_getElem? (i := 10) rfl)) dX10_swapped_34 ?_
    exact ty_lret hx hb hr hlk hG hS (by first | exact Or.inl ⟨rfl, by omega⟩ | exact Or.inr ⟨rfl, by omega⟩ | exact Or.inr (Or.inl ⟨rfl, by omega⟩) | exact Or.inr (Or.inr ⟨rfl, by omega⟩) | exact ⟨rfl, by omega⟩ | omega | trivial | rfl | (exfalso; omega)) dX10_swapped_37

def uX10_laySwap : List Cond := .code yX10_laySwap cX10_laySwap 1 (some .int) :: ([.fieldLink RX10 173 "RiverModelModel" "isBuilt" "Z"] ++ wsX100)
set_option maxHeartbeats 4000000 in
set_option maxRecDepth 100000 in
theorem c_X10_laySwap (l : Launch) (D : va_G) (t : Nat → Nat) (cI cL cC : ClassId) (a0 : Nat) (k_a0 : t a0 = 40) : tM l yX10_laySwap uX10_laySwap 0 0 D (fF cI cL cC 0 0) (fF cI cL cC 0 0) t cI cL cC [.ref a0] wr0 (pI (fun r => r = (-2))) := by
  refine tM.ofW (cc := cX10_laySwap) (maxL := 1) (ret := (some .int)) (by decide) rfl (Nat.le_of_ble_eq_true rfl) ?_
  intro p e s m below meth c hx hb hr hml hown hts hlk H locs hG hK hE hS ls hl
  have hl : lv_has ls 1 [(0, .ref a0)] := hl
  have in10 : ∀ w ∈ wsX100, w ∈ uX10_laySwap := fun w h => List.mem_cons_of_mem _ (List.mem_append_right _ h)
  refine lv_aload_n hx hb dX10_laySwap_0 rfl (lv_at hl 0 rfl) ?_
  obtain ⟨r_1, r_3, r_5, r_7, r_9, r_11, r_13, r_15, r_17, r_19, r_21, r_23, r_25, r_27, r_29, r_31, r_33, r_35, r_37, r_39, r_41, v_43, v_44, v_45, v_46, v_47, r_48, v_50, r_51, at_53, h_2, h_4, h_6, h_8, h_10, h_12, h_14, h_16, h_18, h_20, h_22, h_24, h_26, h_28, h_30, h_32, h_34, h_36, h_38, h_40, h_42, h_49, h_52⟩ := fF_o40 hG k_a0
  refine va_get (D := D) (ci := 9) (v := .int 0) (C := RX10) (T := TX10) (N := 36) hx hb hts in10 hown hK (va_one at_53) 0 rfl rfl 2 (by decide) (hts (.fieldLink RX10 173 "RiverModelModel" "isBuilt" "Z") (List.mem_of_getElem? (i := 1) rfl)) (fun _ h9 => h9) rfl dX10_laySwap_1 ?_
  refine lv_if_eq (tgt := 14) hx hb dX10_laySwap_4 (by decide) (fun _ => ?_) (fun q => absurd (by decide) q)
  refine lv_bipush (v := (-2)) hx hb dX10_laySwap_14 (by decide) ?_
  exact ty_iret hx hb hr hlk hG hS (by first | exact Or.inl ⟨rfl, by omega⟩ | exact Or.inr ⟨rfl, by omega⟩ | exact Or.inr (Or.inl ⟨rfl, by omega⟩) | exact Or.inr (Or.inr ⟨rfl, by omega⟩) | exact ⟨rfl, by omega⟩ | omega | trivial | rfl | (exfalso; omega)) dX10_laySwap_16

def uX10_startB : List Cond := .code yX10_startB cX10_startB 4 (some .int) :: ([.constantLong RX10 234 (15), .methodLink RX10 85 yX10_in, .static yX10_in, .initialized RX10, .constantLong RX10 99 (1000000), .fieldLink RX10 173 "RiverModelModel" "isBuilt" "Z", .code yX10_in cX10_in 6 (some .boolean)] ++ wsX100)
set_option maxRecDepth 20000 in
theorem gu_X10_startB_X10_in_85 : GoodIn uX10_startB (va_wsS RX10 85 yX10_in uX10_in) := goodIn_r _ [2, 3, 4, 7] (by decide +kernel) (by decide +kernel)
set_option maxHeartbeats 4000000 in
set_option maxRecDepth 100000 in
theorem c_X10_startB (l : Launch) (D : va_G) (t : Nat → Nat) (cI cL cC : ClassId) (a0 : Nat) (a1 : Int32) (a2 : Int32) (k_a0 : t a0 = 40) : tM l yX10_startB uX10_startB 1 25 D (fF cI cL cC 0 0) (fF cI cL cC 0 0) t cI cL cC [.ref a0, .int a1, .int a2] wr0 (pI (fun r => (r = (-1) ∧ (a1.toInt < 0 ∨ 15 < a1.toInt ∨ a2.toInt < 0 ∨ 1000000 < a2.toInt)) ∨ (r = (-2) ∧ 0 ≤ a1.toInt ∧ a1.toInt ≤ 15 ∧ 0 ≤ a2.toInt ∧ a2.toInt ≤ 1000000))) := by
  refine tM.ofW (cc := cX10_startB) (maxL := 4) (ret := (some .int)) (by decide) rfl (Nat.le_of_ble_eq_true rfl) ?_
  intro p e s m below meth c hx hb hr hml hown hts hlk H locs hG hK hE hS ls hl
  have hl : lv_has ls 4 [(0, .ref a0), (1, .int a1), (2, .int a2)] := hl
  have in10 : ∀ w ∈ wsX100, w ∈ uX10_startB := fun w h => List.mem_cons_of_mem _ (List.mem_append_right _ h)
  refine lv_iload_n hx hb dX10_startB_0 rfl (lv_at hl 1 rfl) ?_
  refine lv_i2l (v := a1.toInt64) hx hb dX10_startB_1 rfl ?_
  refine lv_lconst (v := 0) hx hb dX10_startB_2 (by decide) ?_
  refine lv_ldc2 hx hb hown (hts (.constantLong RX10 234 (15)) (List.mem_of_getElem? (i := 1) rfl)) dX10_startB_3 ?_
  refine ty_calli ((W.runS (As := [.long a1.toInt64, .long 0, .long 15]) (rest := []) ⟨hx, hb, hml, hown, hts⟩ (c_in l D t cI cL cC 0 0 a1.toInt64 0 15 a1.toInt 0 15 (q_i2l _) (by decide) (by decide) ) (va_cwS 3 hts gu_X10_startB_X10_in_85 rfl rfl rfl (by decide +kernel) ⟨Nat.le_of_ble_eq_true rfl, Nat.le_of_ble_eq_true rfl⟩) (tP_S hG hE) rfl rfl hl.1 rfl (lv_room (Nat.le_of_ble_eq_true rfl)) dX10_startB_6 ⟨Nat.le_of_ble_eq_true rfl, Nat.le_of_ble_eq_true rfl⟩)) hS (fun _ h => h) (fun r_1 H locs hp_2 hG hS o_3 => ?_)
  rcases hp_2 with ⟨rfl, hc_316, hc_317⟩ | ⟨rfl, hc_318⟩
  · skip
    refine lv_if_eq (tgt := 24) hx hb dX10_startB_9 (by decide) (fun q => absurd q (by decide)) (fun _ => ?_)
    refine lv_iload_n hx hb dX10_startB_12 rfl (lv_at hl 2 rfl) ?_
    refine lv_pc (pc2 := 13) rfl ?_
    refine lv_i2l (v := a2.toInt64) hx hb dX10_startB_13 rfl ?_
    refine lv_lconst (v := 0) hx hb dX10_startB_14 (by decide) ?_
    refine lv_ldc2 hx hb hown (hts (.constantLong RX10 99 (1000000)) (List.mem_of_getElem? (i := 5) rfl)) dX10_startB_15 ?_
    refine ty_calli ((W.runS (As := [.long a2.toInt64, .long 0, .long 1000000]) (rest := []) ⟨hx, hb, hml, hown, hts⟩ (c_in l D t cI cL cC 0 0 a2.toInt64 0 1000000 a2.toInt 0 1000000 (q_i2l _) (by decide) (by decide) ) (va_cwS 3 hts gu_X10_startB_X10_in_85 rfl rfl rfl (by decide +kernel) ⟨Nat.le_of_ble_eq_true rfl, Nat.le_of_ble_eq_true rfl⟩) (tP_S hG hE) rfl rfl hl.1 rfl (lv_room (Nat.le_of_ble_eq_true rfl)) dX10_startB_18 ⟨Nat.le_of_ble_eq_true rfl, Nat.le_of_ble_eq_true rfl⟩)) hS (fun _ h => h) (fun r_4 H locs hp_5 hG hS o_6 => ?_)
    rcases hp_5 with ⟨rfl, hc_319, hc_320⟩ | ⟨rfl, hc_321⟩
    · skip
      refine lv_if_ne (tgt := 26) hx hb dX10_startB_21 (by decide) (fun _ => ?_) (fun q => absurd q (by decide))
      refine lv_aload_n hx hb dX10_startB_26 rfl (lv_at hl 0 rfl) ?_
      obtain ⟨r_7, r_9, r_11, r_13, r_15, r_17, r_19, r_21, r_23, r_25, r_27, r_29, r_31, r_33, r_35, r_37, r_39, r_41, r_43, r_45, r_47, v_49, v_50, v_51, v_52, v_53, r_54, v_56, r_57, at_59, h_8, h_10, h_12, h_14, h_16, h_18, h_20, h_22, h_24, h_26, h_28, h_30, h_32, h_34, h_36, h_38, h_40, h_42, h_44, h_46, h_48, h_55, h_58⟩ := fF_o40 hG k_a0
      refine va_get (D := D) (ci := 9) (v := .int 0) (C := RX10) (T := TX10) (N := 36) hx hb hts in10 hown hK (va_one at_59) 0 rfl rfl 2 (by decide) (hts (.fieldLink RX10 173 "RiverModelModel" "isBuilt" "Z") (List.mem_of_getElem? (i := 6) rfl)) (fun _ h9 => h9) rfl dX10_startB_27 ?_
      refine lv_if_eq (tgt := 41) hx hb dX10_startB_30 (by decide) (fun _ => ?_) (fun q => absurd (by decide) q)
      refine lv_pc (pc2 := 41) rfl ?_
      refine lv_bipush (v := (-2)) hx hb dX10_startB_41 (by decide) ?_
      exact ty_iret hx hb hr hlk hG hS (by first | exact Or.inl ⟨rfl, by omega⟩ | exact Or.inr ⟨rfl, by omega⟩ | exact Or.inr (Or.inl ⟨rfl, by omega⟩) | exact Or.inr (Or.inr ⟨rfl, by omega⟩) | exact ⟨rfl, by omega⟩ | omega | trivial | rfl | (exfalso; omega)) dX10_startB_43
    · skip
      refine lv_if_ne (tgt := 26) hx hb dX10_startB_21 (by decide) (fun q => absurd rfl q) (fun _ => ?_)
      refine lv_iconst (v := (-1)) hx hb dX10_startB_24 (by decide) ?_
      exact ty_iret hx hb hr hlk hG hS (by first | exact Or.inl ⟨rfl, by omega⟩ | exact Or.inr ⟨rfl, by omega⟩ | exact Or.inr (Or.inl ⟨rfl, by omega⟩) | exact Or.inr (Or.inr ⟨rfl, by omega⟩) | exact ⟨rfl, by omega⟩ | omega | trivial | rfl | (exfalso; omega)) dX10_startB_25
  · skip
    refine lv_if_eq (tgt := 24) hx hb dX10_startB_9 (by decide) (fun _ => ?_) (fun q => absurd (by decide) q)
    refine lv_iconst (v := (-1)) hx hb dX10_startB_24 (by decide) ?_
    exact ty_iret hx hb hr hlk hG hS (by first | exact Or.inl ⟨rfl, by omega⟩ | exact Or.inr ⟨rfl, by omega⟩ | exact Or.inr (Or.inl ⟨rfl, by omega⟩) | exact Or.inr (Or.inr ⟨rfl, by omega⟩) | exact ⟨rfl, by omega⟩ | omega | trivial | rfl | (exfalso; omega)) dX10_startB_25

def uX10_blame : List Cond := .code yX10_blame cX10_blame 12 (some .long) :: ([.constantLong RX10 243 (3), .methodLink RX10 85 yX10_in, .static yX10_in, .initialized RX10, .constantLong RX10 198 (95), .methodLink RX10 248 yX10_isSet, .instanceMethod yX10_isSet, .selects RX10 yX10_isSet yX10_isSet, .constantLong RX10 315 (-1000000000000000001), .constantLong RX10 313 (-1000000000000000000), .code yX10_in cX10_in 6 (some .boolean), .code yX10_isSet cX10_isSet 2 (some .boolean), .fieldLink RX10 173 "RiverModelModel" "isBuilt" "Z"] ++ wsX100)
set_option maxRecDepth 20000 in
theorem gu_X10_blame_X10_in_85 : GoodIn uX10_blame (va_wsS RX10 85 yX10_in uX10_in) := goodIn_r _ [2, 3, 4, 11] (by decide +kernel) (by decide +kernel)
set_option maxRecDepth 20000 in
theorem gu_X10_blame_X10_isSet_248 : GoodIn uX10_blame (wsV RX10 248 RX10 yX10_isSet uX10_isSet) := goodIn_r _ [6, 7, 8, 4, 12, 13, 14, 15, 16, 17, 18, 19, 20, 21, 22, 23, 24, 25, 26, 27, 28, 29, 30, 31, 32, 33, 34, 35, 36, 37, 38, 39, 40, 41, 42, 43, 44, 45, 46, 47, 48, 49] (by decide +kernel) (by decide +kernel)
set_option maxHeartbeats 4000000 in
set_option maxRecDepth 100000 in
theorem c_X10_blame (l : Launch) (D : va_G) (t : Nat → Nat) (cI cL cC : ClassId) (a0 : Nat) (a1 : Int32) (a2 : Int32) (a3 : Int32) (k_a0 : t a0 = 40) : tM l yX10_blame uX10_blame 1 25 D (fF cI cL cC 0 0) (fF cI cL cC 0 0) t cI cL cC [.ref a0, .int a1, .int a2, .int a3] wr0 (pL (fun r => (r = (-1000000000000000000) ∧ (a1.toInt < 0 ∨ 3 < a1.toInt ∨ a2.toInt < 0 ∨ 95 < a2.toInt ∨ a3.toInt < 0 ∨ 3 < a3.toInt)) ∨ (r = (-1000000000000000001) ∧ 0 ≤ a1.toInt ∧ a1.toInt ≤ 3 ∧ 0 ≤ a2.toInt ∧ a2.toInt ≤ 95 ∧ 0 ≤ a3.toInt ∧ a3.toInt ≤ 3))) := by
  refine tM.ofW (cc := cX10_blame) (maxL := 12) (ret := (some .long)) (by decide) rfl (Nat.le_of_ble_eq_true rfl) ?_
  intro p e s m below meth c hx hb hr hml hown hts hlk H locs hG hK hE hS ls hl
  have hl : lv_has ls 12 [(0, .ref a0), (1, .int a1), (2, .int a2), (3, .int a3)] := hl
  skip
  refine lv_iload_n hx hb dX10_blame_0 rfl (lv_at hl 1 rfl) ?_
  refine lv_i2l (v := a1.toInt64) hx hb dX10_blame_1 rfl ?_
  refine lv_lconst (v := 0) hx hb dX10_blame_2 (by decide) ?_
  refine lv_ldc2 hx hb hown (hts (.constantLong RX10 243 (3)) (List.mem_of_getElem? (i := 1) rfl)) dX10_blame_3 ?_
  refine ty_calli ((W.runS (As := [.long a1.toInt64, .long 0, .long 3]) (rest := []) ⟨hx, hb, hml, hown, hts⟩ (c_in l D t cI cL cC 0 0 a1.toInt64 0 3 a1.toInt 0 3 (q_i2l _) (by decide) (by decide) ) (va_cwS 3 hts gu_X10_blame_X10_in_85 rfl rfl rfl (by decide +kernel) ⟨Nat.le_of_ble_eq_true rfl, Nat.le_of_ble_eq_true rfl⟩) (tP_S hG hE) rfl rfl hl.1 rfl (lv_room (Nat.le_of_ble_eq_true rfl)) dX10_blame_6 ⟨Nat.le_of_ble_eq_true rfl, Nat.le_of_ble_eq_true rfl⟩)) hS (fun _ h => h) (fun r_1 H locs hp_2 hG hS o_3 => ?_)
  rcases hp_2 with ⟨rfl, hc_322, hc_323⟩ | ⟨rfl, hc_324⟩
  · skip
    refine lv_if_eq (tgt := 36) hx hb dX10_blame_9 (by decide) (fun q => absurd q (by decide)) (fun _ => ?_)
    refine lv_iload_n hx hb dX10_blame_12 rfl (lv_at hl 2 rfl) ?_
    refine lv_pc (pc2 := 13) rfl ?_
    refine lv_i2l (v := a2.toInt64) hx hb dX10_blame_13 rfl ?_
    refine lv_lconst (v := 0) hx hb dX10_blame_14 (by decide) ?_
    refine lv_ldc2 hx hb hown (hts (.constantLong RX10 198 (95)) (List.mem_of_getElem? (i := 5) rfl)) dX10_blame_15 ?_
    refine ty_calli ((W.runS (As := [.long a2.toInt64, .long 0, .long 95]) (rest := []) ⟨hx, hb, hml, hown, hts⟩ (c_in l D t cI cL cC 0 0 a2.toInt64 0 95 a2.toInt 0 95 (q_i2l _) (by decide) (by decide) ) (va_cwS 3 hts gu_X10_blame_X10_in_85 rfl rfl rfl (by decide +kernel) ⟨Nat.le_of_ble_eq_true rfl, Nat.le_of_ble_eq_true rfl⟩) (tP_S hG hE) rfl rfl hl.1 rfl (lv_room (Nat.le_of_ble_eq_true rfl)) dX10_blame_18 ⟨Nat.le_of_ble_eq_true rfl, Nat.le_of_ble_eq_true rfl⟩)) hS (fun _ h => h) (fun r_4 H locs hp_5 hG hS o_6 => ?_)
    rcases hp_5 with ⟨rfl, hc_325, hc_326⟩ | ⟨rfl, hc_327⟩
    · skip
      refine lv_if_eq (tgt := 36) hx hb dX10_blame_21 (by decide) (fun q => absurd q (by decide)) (fun _ => ?_)
      refine lv_iload_n hx hb dX10_blame_24 rfl (lv_at hl 3 rfl) ?_
      refine lv_i2l (v := a3.toInt64) hx hb dX10_blame_25 rfl ?_
      refine lv_lconst (v := 0) hx hb dX10_blame_26 (by decide) ?_
      refine lv_pc (pc2 := 27) rfl ?_
      refine lv_ldc2 hx hb hown (hts (.constantLong RX10 243 (3)) (List.mem_of_getElem? (i := 1) rfl)) dX10_blame_27 ?_
      refine ty_calli ((W.runS (As := [.long a3.toInt64, .long 0, .long 3]) (rest := []) ⟨hx, hb, hml, hown, hts⟩ (c_in l D t cI cL cC 0 0 a3.toInt64 0 3 a3.toInt 0 3 (q_i2l _) (by decide) (by decide) ) (va_cwS 3 hts gu_X10_blame_X10_in_85 rfl rfl rfl (by decide +kernel) ⟨Nat.le_of_ble_eq_true rfl, Nat.le_of_ble_eq_true rfl⟩) (tP_S hG hE) rfl rfl hl.1 rfl (lv_room (Nat.le_of_ble_eq_true rfl)) dX10_blame_30 ⟨Nat.le_of_ble_eq_true rfl, Nat.le_of_ble_eq_true rfl⟩)) hS (fun _ h => h) (fun r_7 H locs hp_8 hG hS o_9 => ?_)
      rcases hp_8 with ⟨rfl, hc_328, hc_329⟩ | ⟨rfl, hc_330⟩
      · skip
        refine lv_if_ne (tgt := 40) hx hb dX10_blame_33 (by decide) (fun _ => ?_) (fun q => absurd q (by decide))
        refine lv_aload_n hx hb dX10_blame_40 rfl (lv_at hl 0 rfl) ?_
        refine lv_iload_n hx hb dX10_blame_41 rfl (lv_at hl 1 rfl) ?_
        obtain ⟨r_10, r_12, r_14, r_16, r_18, r_20, r_22, r_24, r_26, r_28, r_30, r_32, r_34, r_36, r_38, r_40, r_42, r_44, r_46, r_48, r_50, v_52, v_53, v_54, v_55, v_56, r_57, v_59, r_60, at_62, h_11, h_13, h_15, h_17, h_19, h_21, h_23, h_25, h_27, h_29, h_31, h_33, h_35, h_37, h_39, h_41, h_43, h_45, h_47, h_49, h_51, h_58, h_61⟩ := fF_o40 hG k_a0
        refine ty_calli ((W.runV (As := [.int a1]) (rest := []) ⟨hx, hb, hml, hown, hts⟩ (c_X10_isSet l D t cI cL cC a0 a1 k_a0) (cwV 1 hts gu_X10_blame_X10_isSet_248 rfl rfl rfl (by decide +kernel) ⟨Nat.le_of_ble_eq_true rfl, Nat.le_of_ble_eq_true rfl⟩) (tP_V hG hE at_62 rfl) rfl rfl hl.1 rfl (lv_room (Nat.le_of_ble_eq_true rfl)) dX10_blame_42 ⟨Nat.le_of_ble_eq_true rfl, Nat.le_of_ble_eq_true rfl⟩)) hS (fun _ h => h) (fun r_63 H locs hp_64 hG hS o_65 => ?_)
        have at_62 := va_at.keptC at_62 o_65 k_a0 rfl
        rcases hp_64 with rfl
        refine lv_if_ne (tgt := 52) hx hb dX10_blame_45 (by decide) (fun q => absurd rfl q) (fun _ => ?_)
        refine lv_ldc2 hx hb hown (hts (.constantLong RX10 315 (-1000000000000000001)) (List.mem_of_getElem? (i := 9) rfl)) dX10_blame_48 ?_
        refine lv_pc (pc2 := 51) rfl ?_
        exact ty_lret hx hb hr hlk hG hS (by first | exact Or.inl ⟨rfl, by omega⟩ | exact Or.inr ⟨rfl, by omega⟩ | exact Or.inr (Or.inl ⟨rfl, by omega⟩) | exact Or.inr (Or.inr ⟨rfl, by omega⟩) | exact ⟨rfl, by omega⟩ | omega | trivial | rfl | (exfalso; omega)) dX10_blame_51
      · skip
        refine lv_if_ne (tgt := 40) hx hb dX10_blame_33 (by decide) (fun q => absurd rfl q) (fun _ => ?_)
        refine lv_ldc2 hx hb hown (hts (.constantLong RX10 313 (-1000000000000000000)) (List.mem_of_getElem? (i := 10) rfl)) dX10_blame_36 ?_
        exact ty_lret hx hb hr hlk hG hS (by first | exact Or.inl ⟨rfl, by omega⟩ | exact Or.inr ⟨rfl, by omega⟩ | exact Or.inr (Or.inl ⟨rfl, by omega⟩) | exact Or.inr (Or.inr ⟨rfl, by omega⟩) | exact ⟨rfl, by omega⟩ | omega | trivial | rfl | (exfalso; omega)) dX10_blame_39
    · skip
      refine lv_if_eq (tgt := 36) hx hb dX10_blame_21 (by decide) (fun _ => ?_) (fun q => absurd (by decide) q)
      refine lv_ldc2 hx hb hown (hts (.constantLong RX10 313 (-1000000000000000000)) (List.mem_of_getElem? (i := 10) rfl)) dX10_blame_36 ?_
      exact ty_lret hx hb hr hlk hG hS (by first | exact Or.inl ⟨rfl, by omega⟩ | exact Or.inr ⟨rfl, by omega⟩ | exact Or.inr (Or.inl ⟨rfl, by omega⟩) | exact Or.inr (Or.inr ⟨rfl, by omega⟩) | exact ⟨rfl, by omega⟩ | omega | trivial | rfl | (exfalso; omega)) dX10_blame_39
  · skip
    refine lv_if_eq (tgt := 36) hx hb dX10_blame_9 (by decide) (fun _ => ?_) (fun q => absurd (by decide) q)
    refine lv_pc (pc2 := 36) rfl ?_
    refine lv_ldc2 hx hb hown (hts (.constantLong RX10 313 (-1000000000000000000)) (List.mem_of_getElem? (i := 10) rfl)) dX10_blame_36 ?_
    exact ty_lret hx hb hr hlk hG hS (by first | exact Or.inl ⟨rfl, by omega⟩ | exact Or.inr ⟨rfl, by omega⟩ | exact Or.inr (Or.inl ⟨rfl, by omega⟩) | exact Or.inr (Or.inr ⟨rfl, by omega⟩) | exact ⟨rfl, by omega⟩ | omega | trivial | rfl | (exfalso; omega)) dX10_blame_39

def uX10_keep : List Cond := .code yX10_keep cX10_keep 2 (some .int) :: ([.fieldLink RX10 173 "RiverModelModel" "isBuilt" "Z"] ++ wsX100)
set_option maxHeartbeats 4000000 in
set_option maxRecDepth 100000 in
theorem c_X10_keep (l : Launch) (D : va_G) (t : Nat → Nat) (cI cL cC : ClassId) (a0 : Nat) (k_a0 : t a0 = 40) : tM l yX10_keep uX10_keep 0 0 D (fF cI cL cC 0 0) (fF cI cL cC 0 0) t cI cL cC [.ref a0] wr0 (pI (fun r => r = (-2))) := by
  refine tM.ofW (cc := cX10_keep) (maxL := 2) (ret := (some .int)) (by decide) rfl (Nat.le_of_ble_eq_true rfl) ?_
  intro p e s m below meth c hx hb hr hml hown hts hlk H locs hG hK hE hS ls hl
  have hl : lv_has ls 2 [(0, .ref a0)] := hl
  have in10 : ∀ w ∈ wsX100, w ∈ uX10_keep := fun w h => List.mem_cons_of_mem _ (List.mem_append_right _ h)
  refine lv_aload_n hx hb dX10_keep_0 rfl (lv_at hl 0 rfl) ?_
  obtain ⟨r_1, r_3, r_5, r_7, r_9, r_11, r_13, r_15, r_17, r_19, r_21, r_23, r_25, r_27, r_29, r_31, r_33, r_35, r_37, r_39, r_41, v_43, v_44, v_45, v_46, v_47, r_48, v_50, r_51, at_53, h_2, h_4, h_6, h_8, h_10, h_12, h_14, h_16, h_18, h_20, h_22, h_24, h_26, h_28, h_30, h_32, h_34, h_36, h_38, h_40, h_42, h_49, h_52⟩ := fF_o40 hG k_a0
  refine va_get (D := D) (ci := 9) (v := .int 0) (C := RX10) (T := TX10) (N := 36) hx hb hts in10 hown hK (va_one at_53) 0 rfl rfl 2 (by decide) (hts (.fieldLink RX10 173 "RiverModelModel" "isBuilt" "Z") (List.mem_of_getElem? (i := 1) rfl)) (fun _ h9 => h9) rfl dX10_keep_1 ?_
  refine lv_if_ne (tgt := 10) hx hb dX10_keep_4 (by decide) (fun q => absurd rfl q) (fun _ => ?_)
  refine lv_bipush (v := (-2)) hx hb dX10_keep_7 (by decide) ?_
  exact ty_iret hx hb hr hlk hG hS (by first | exact Or.inl ⟨rfl, by omega⟩ | exact Or.inr ⟨rfl, by omega⟩ | exact Or.inr (Or.inl ⟨rfl, by omega⟩) | exact Or.inr (Or.inr ⟨rfl, by omega⟩) | exact ⟨rfl, by omega⟩ | omega | trivial | rfl | (exfalso; omega)) dX10_keep_9

def uX10_back : List Cond := .code yX10_back cX10_back 2 (some .int) :: ([.fieldLink RX10 180 "RiverModelModel" "keptMany" "I"] ++ wsX100)
set_option maxHeartbeats 4000000 in
set_option maxRecDepth 100000 in
theorem c_X10_back (l : Launch) (D : va_G) (t : Nat → Nat) (cI cL cC : ClassId) (a0 : Nat) (k_a0 : t a0 = 40) : tM l yX10_back uX10_back 0 0 D (fF cI cL cC 0 0) (fF cI cL cC 0 0) t cI cL cC [.ref a0] wr0 (pI (fun r => r = (-2))) := by
  refine tM.ofW (cc := cX10_back) (maxL := 2) (ret := (some .int)) (by decide) rfl (Nat.le_of_ble_eq_true rfl) ?_
  intro p e s m below meth c hx hb hr hml hown hts hlk H locs hG hK hE hS ls hl
  have hl : lv_has ls 2 [(0, .ref a0)] := hl
  have in10 : ∀ w ∈ wsX100, w ∈ uX10_back := fun w h => List.mem_cons_of_mem _ (List.mem_append_right _ h)
  refine lv_aload_n hx hb dX10_back_0 rfl (lv_at hl 0 rfl) ?_
  obtain ⟨r_1, r_3, r_5, r_7, r_9, r_11, r_13, r_15, r_17, r_19, r_21, r_23, r_25, r_27, r_29, r_31, r_33, r_35, r_37, r_39, r_41, v_43, v_44, v_45, v_46, v_47, r_48, v_50, r_51, at_53, h_2, h_4, h_6, h_8, h_10, h_12, h_14, h_16, h_18, h_20, h_22, h_24, h_26, h_28, h_30, h_32, h_34, h_36, h_38, h_40, h_42, h_49, h_52⟩ := fF_o40 hG k_a0
  refine va_get (D := D) (ci := 9) (v := .int 0) (C := RX10) (T := TX10) (N := 36) hx hb hts in10 hown hK (va_one at_53) 0 rfl rfl 13 (by decide) (hts (.fieldLink RX10 180 "RiverModelModel" "keptMany" "I") (List.mem_of_getElem? (i := 1) rfl)) (fun _ h9 => h9) rfl dX10_back_1 ?_
  refine lv_if_ne (tgt := 10) hx hb dX10_back_4 (by decide) (fun q => absurd rfl q) (fun _ => ?_)
  refine lv_bipush (v := (-2)) hx hb dX10_back_7 (by decide) ?_
  exact ty_iret hx hb hr hlk hG hS (by first | exact Or.inl ⟨rfl, by omega⟩ | exact Or.inr ⟨rfl, by omega⟩ | exact Or.inr (Or.inl ⟨rfl, by omega⟩) | exact Or.inr (Or.inr ⟨rfl, by omega⟩) | exact ⟨rfl, by omega⟩ | omega | trivial | rfl | (exfalso; omega)) dX10_back_9

def uX10_clear : List Cond := .code yX10_clear cX10_clear 2 (some .int) :: ([.fieldLink RX10 89 "RiverModelModel" "length" "I"] ++ wsX100)
set_option maxHeartbeats 4000000 in
set_option maxRecDepth 100000 in
theorem c_X10_clear (l : Launch) (D : va_G) (t : Nat → Nat) (cI cL cC : ClassId) (a0 : Nat) (k_a0 : t a0 = 40) : tM l yX10_clear uX10_clear 0 0 D (fF cI cL cC 0 0) (fF cI cL cC 0 0) t cI cL cC [.ref a0] wrM (pI (fun r => r = 0)) := by
  refine tM.ofW (cc := cX10_clear) (maxL := 2) (ret := (some .int)) (by decide) rfl (Nat.le_of_ble_eq_true rfl) ?_
  intro p e s m below meth c hx hb hr hml hown hts hlk H locs hG hK hE hS ls hl
  have hl : lv_has ls 2 [(0, .ref a0)] := hl
  have in10 : ∀ w ∈ wsX100, w ∈ uX10_clear := fun w h => List.mem_cons_of_mem _ (List.mem_append_right _ h)
  refine lv_aload_n hx hb dX10_clear_0 rfl (lv_at hl 0 rfl) ?_
  obtain ⟨r_1, r_3, r_5, r_7, r_9, r_11, r_13, r_15, r_17, r_19, r_21, r_23, r_25, r_27, r_29, r_31, r_33, r_35, r_37, r_39, r_41, v_43, v_44, v_45, v_46, v_47, r_48, v_50, r_51, at_53, h_2, h_4, h_6, h_8, h_10, h_12, h_14, h_16, h_18, h_20, h_22, h_24, h_26, h_28, h_30, h_32, h_34, h_36, h_38, h_40, h_42, h_49, h_52⟩ := fF_o40 hG k_a0
  refine va_get (D := D) (ci := 9) (v := .int 0) (C := RX10) (T := TX10) (N := 36) hx hb hts in10 hown hK (va_one at_53) 0 rfl rfl 0 (by decide) (hts (.fieldLink RX10 89 "RiverModelModel" "length" "I") (List.mem_of_getElem? (i := 1) rfl)) (fun _ h9 => h9) rfl dX10_clear_1 ?_
  refine lv_istore_n (lv' := [(1, .int 0), (0, .ref a0)]) hx hb dX10_clear_4 rfl hl (by decide) rfl (fun ls hl => ?_)
  refine lv_aload_n hx hb dX10_clear_5 rfl (lv_at hl 1 rfl) ?_
  refine lv_iconst (v := 0) hx hb dX10_clear_6 (by decide) ?_
  refine ty_put (D := D) (ci := 9) (v := .int 0) (ty := .int) (C := RX10) (T := TX10) (N := 36) (F2 := (fF cI cL cC 0 0)) hx hb hts in10 tyX10 tyX10_ok nmX10 hown hK hG hS at_53 (by rw [k_a0]; rfl) rfl 0 (by decide) (hts (.fieldLink RX10 89 "RiverModelModel" "length" "I") (List.mem_of_getElem? (i := 1) rfl)) (fun _ h9 => h9) rfl (by decide +kernel) rfl rfl (Nat.le_of_ble_eq_true rfl) (by rw [k_a0]; exact ⟨r_1, r_3, r_5, r_7, r_9, r_11, r_13, r_15, r_17, r_19, r_21, r_23, r_25, r_27, r_29, r_31, r_33, r_35, r_37, r_39, r_41, v_43, v_44, v_45, v_46, v_47, r_48, v_50, r_51, rfl, h_2, h_4, h_6, h_8, h_10, h_12, h_14, h_16, h_18, h_20, h_22, h_24, h_26, h_28, h_30, h_32, h_34, h_36, h_38, h_40, h_42, h_49, h_52⟩) tFF dX10_clear_7 (fun H locs hG hS at_54 o_55 => ?_)
  have at_54 : va_at D vwCl (a0, .inr (9, [.int 0, .ref r_1, .int 0, .int 0, .ref r_3, .ref r_5, .ref r_7, .ref r_9, .int 0, .ref r_11, .ref r_13, .ref r_15, .ref r_17, .int 0, .ref r_19, .ref r_21, .ref r_23, .int 0, .ref r_25, .ref r_27, .ref r_29, .ref r_31, .ref r_33, .ref r_35, .ref r_37, .ref r_39, .ref r_41, .int v_43, .int v_44, .int v_45, .int v_46, .int v_47, .ref r_48, .int 0, .int v_50, .ref r_51])) H := at_54
  refine lv_iload_n hx hb dX10_clear_10 rfl (lv_at hl 0 rfl) ?_
  refine lv_pc (pc2 := 11) rfl ?_
  exact ty_iret hx hb hr hlk hG hS (by first | exact Or.inl ⟨rfl, by omega⟩ | exact Or.inr ⟨rfl, by omega⟩ | exact Or.inr (Or.inl ⟨rfl, by omega⟩) | exact Or.inr (Or.inr ⟨rfl, by omega⟩) | exact ⟨rfl, by omega⟩ | omega | trivial | rfl | (exfalso; omega)) dX10_clear_11

def uX10_weather : List Cond := .code yX10_weather cX10_weather 5 (some .int) :: ([.methodLink RX10 85 yX10_in, .static yX10_in, .initialized RX10, .constantLong RX10 198 (95), .constantLong RX10 103 (10000), .constantLong RX10 200 (-30), .constantLong RX10 202 (40), .fieldLink RX10 25 "RiverModelModel" "weather" "[I", .code yX10_in cX10_in 6 (some .boolean)] ++ wsX100)
set_option maxRecDepth 20000 in
theorem gu_X10_weather_X10_in_85 : GoodIn uX10_weather (va_wsS RX10 85 yX10_in uX10_in) := goodIn_r _ [1, 2, 3, 9] (by decide +kernel) (by decide +kernel)
set_option maxHeartbeats 4000000 in
set_option maxRecDepth 100000 in
theorem c_X10_weather (l : Launch) (D : va_G) (t : Nat → Nat) (cI cL cC : ClassId) (a0 : Nat) (a1 : Int32) (a2 : Int32) (a3 : Int32) (a4 : Int32) (k_a0 : t a0 = 40) : tM l yX10_weather uX10_weather 1 25 D (fF cI cL cC 0 0) (fF cI cL cC 0 0) t cI cL cC [.ref a0, .int a1, .int a2, .int a3, .int a4] wrM (pI (fun r => (r = (-1) ∧ (a1.toInt < 0 ∨ 1 < a1.toInt ∨ a2.toInt < 0 ∨ 95 < a2.toInt ∨ a3.toInt < 0 ∨ 10000 < a3.toInt ∨ a4.toInt < (-30) ∨ 40 < a4.toInt)) ∨ (r = 0 ∧ 0 ≤ a1.toInt ∧ a1.toInt ≤ 1 ∧ 0 ≤ a2.toInt ∧ a2.toInt ≤ 95 ∧ 0 ≤ a3.toInt ∧ a3.toInt ≤ 10000 ∧ (-30) ≤ a4.toInt ∧ a4.toInt ≤ 40))) := by
  refine tM.ofW (cc := cX10_weather) (maxL := 5) (ret := (some .int)) (by decide) rfl (Nat.le_of_ble_eq_true rfl) ?_
  intro p e s m below meth c hx hb hr hml hown hts hlk H locs hG hK hE hS ls hl
  have hl : lv_has ls 5 [(0, .ref a0), (1, .int a1), (2, .int a2), (3, .int a3), (4, .int a4)] := hl
  have in10 : ∀ w ∈ wsX100, w ∈ uX10_weather := fun w h => List.mem_cons_of_mem _ (List.mem_append_right _ h)
  refine lv_iload_n hx hb dX10_weather_0 rfl (lv_at hl 1 rfl) ?_
  refine lv_i2l (v := a1.toInt64) hx hb dX10_weather_1 rfl ?_
  refine lv_lconst (v := 0) hx hb dX10_weather_2 (by decide) ?_
  refine lv_lconst (v := 1) hx hb dX10_weather_3 (by decide) ?_
  refine ty_calli ((W.runS (As := [.long a1.toInt64, .long 0, .long 1]) (rest := []) ⟨hx, hb, hml, hown, hts⟩ (c_in l D t cI cL cC 0 0 a1.toInt64 0 1 a1.toInt 0 1 (q_i2l _) (by decide) (by decide) ) (va_cwS 3 hts gu_X10_weather_X10_in_85 rfl rfl rfl (by decide +kernel) ⟨Nat.le_of_ble_eq_true rfl, Nat.le_of_ble_eq_true rfl⟩) (tP_S hG hE) rfl rfl hl.1 rfl (lv_room (Nat.le_of_ble_eq_true rfl)) dX10_weather_4 ⟨Nat.le_of_ble_eq_true rfl, Nat.le_of_ble_eq_true rfl⟩)) hS (fun k h => by simp [wr0] at h) (fun r_1 H locs hp_2 hG hS o_3 => ?_)
  rcases hp_2 with ⟨rfl, hc_331, hc_332⟩ | ⟨rfl, hc_333⟩
  · skip
    refine lv_if_eq (tgt := 49) hx hb dX10_weather_7 (by decide) (fun q => absurd q (by decide)) (fun _ => ?_)
    refine lv_iload_n hx hb dX10_weather_10 rfl (lv_at hl 2 rfl) ?_
    refine lv_pc (pc2 := 11) rfl ?_
    refine lv_i2l (v := a2.toInt64) hx hb dX10_weather_11 rfl ?_
    refine lv_lconst (v := 0) hx hb dX10_weather_12 (by decide) ?_
    refine lv_ldc2 hx hb hown (hts (.constantLong RX10 198 (95)) (List.mem_of_getElem? (i := 4) rfl)) dX10_weather_13 ?_
    refine ty_calli ((W.runS (As := [.long a2.toInt64, .long 0, .long 95]) (rest := []) ⟨hx, hb, hml, hown, hts⟩ (c_in l D t cI cL cC 0 0 a2.toInt64 0 95 a2.toInt 0 95 (q_i2l _) (by decide) (by decide) ) (va_cwS 3 hts gu_X10_weather_X10_in_85 rfl rfl rfl (by decide +kernel) ⟨Nat.le_of_ble_eq_true rfl, Nat.le_of_ble_eq_true rfl⟩) (tP_S hG hE) rfl rfl hl.1 rfl (lv_room (Nat.le_of_ble_eq_true rfl)) dX10_weather_16 ⟨Nat.le_of_ble_eq_true rfl, Nat.le_of_ble_eq_true rfl⟩)) hS (fun k h => by simp [wr0] at h) (fun r_4 H locs hp_5 hG hS o_6 => ?_)
    rcases hp_5 with ⟨rfl, hc_334, hc_335⟩ | ⟨rfl, hc_336⟩
    · skip
      refine lv_if_eq (tgt := 49) hx hb dX10_weather_19 (by decide) (fun q => absurd q (by decide)) (fun _ => ?_)
      refine lv_iload_n hx hb dX10_weather_22 rfl (lv_at hl 3 rfl) ?_
      refine lv_i2l (v := a3.toInt64) hx hb dX10_weather_23 rfl ?_
      refine lv_lconst (v := 0) hx hb dX10_weather_24 (by decide) ?_
      refine lv_pc (pc2 := 25) rfl ?_
      refine lv_ldc2 hx hb hown (hts (.constantLong RX10 103 (10000)) (List.mem_of_getElem? (i := 5) rfl)) dX10_weather_25 ?_
      refine ty_calli ((W.runS (As := [.long a3.toInt64, .long 0, .long 10000]) (rest := []) ⟨hx, hb, hml, hown, hts⟩ (c_in l D t cI cL cC 0 0 a3.toInt64 0 10000 a3.toInt 0 10000 (q_i2l _) (by decide) (by decide) ) (va_cwS 3 hts gu_X10_weather_X10_in_85 rfl rfl rfl (by decide +kernel) ⟨Nat.le_of_ble_eq_true rfl, Nat.le_of_ble_eq_true rfl⟩) (tP_S hG hE) rfl rfl hl.1 rfl (lv_room (Nat.le_of_ble_eq_true rfl)) dX10_weather_28 ⟨Nat.le_of_ble_eq_true rfl, Nat.le_of_ble_eq_true rfl⟩)) hS (fun k h => by simp [wr0] at h) (fun r_7 H locs hp_8 hG hS o_9 => ?_)
      rcases hp_8 with ⟨rfl, hc_337, hc_338⟩ | ⟨rfl, hc_339⟩
      · skip
        refine lv_if_eq (tgt := 49) hx hb dX10_weather_31 (by decide) (fun q => absurd q (by decide)) (fun _ => ?_)
        refine lv_iload hx hb dX10_weather_34 (lv_at hl 4 rfl) ?_
        refine lv_i2l (v := a4.toInt64) hx hb dX10_weather_36 rfl ?_
        refine lv_ldc2 hx hb hown (hts (.constantLong RX10 200 (-30)) (List.mem_of_getElem? (i := 6) rfl)) dX10_weather_37 ?_
        refine lv_ldc2 hx hb hown (hts (.constantLong RX10 202 (40)) (List.mem_of_getElem? (i := 7) rfl)) dX10_weather_40 ?_
        refine ty_calli ((W.runS (As := [.long a4.toInt64, .long (-30), .long 40]) (rest := []) ⟨hx, hb, hml, hown, hts⟩ (c_in l D t cI cL cC 0 0 a4.toInt64 (-30) 40 a4.toInt (-30) 40 (q_i2l _) (by decide) (by decide) ) (va_cwS 3 hts gu_X10_weather_X10_in_85 rfl rfl rfl (by decide +kernel) ⟨Nat.le_of_ble_eq_true rfl, Nat.le_of_ble_eq_true rfl⟩) (tP_S hG hE) rfl rfl hl.1 rfl (lv_room (Nat.le_of_ble_eq_true rfl)) dX10_weather_43 ⟨Nat.le_of_ble_eq_true rfl, Nat.le_of_ble_eq_true rfl⟩)) hS (fun k h => by simp [wr0] at h) (fun r_10 H locs hp_11 hG hS o_12 => ?_)
        rcases hp_11 with ⟨rfl, hc_340, hc_341⟩ | ⟨rfl, hc_342⟩
        · skip
          refine lv_pc (pc2 := 46) rfl ?_
          refine lv_if_ne (tgt := 51) hx hb dX10_weather_46 (by decide) (fun _ => ?_) (fun q => absurd q (by decide))
          refine lv_aload_n hx hb dX10_weather_51 rfl (lv_at hl 0 rfl) ?_
          obtain ⟨r_13, r_15, r_17, r_19, r_21, r_23, r_25, r_27, r_29, r_31, r_33, r_35, r_37, r_39, r_41, r_43, r_45, r_47, r_49, r_51, r_53, v_55, v_56, v_57, v_58, v_59, r_60, v_62, r_63, at_65, h_14, h_16, h_18, h_20, h_22, h_24, h_26, h_28, h_30, h_32, h_34, h_36, h_38, h_40, h_42, h_44, h_46, h_48, h_50, h_52, h_54, h_61, h_64⟩ := fF_o40 hG k_a0
          refine va_get (D := D) (ci := 9) (v := .ref r_23) (C := RX10) (T := TX10) (N := 36) hx hb hts in10 hown hK (va_one at_65) 0 rfl rfl 9 (by decide) (hts (.fieldLink RX10 25 "RiverModelModel" "weather" "[I") (List.mem_of_getElem? (i := 8) rfl)) (fun _ h9 => h9) rfl dX10_weather_52 ?_
          refine lv_sipush (v := 192) hx hb dX10_weather_55 (by decide) ?_
          refine lv_iload_n hx hb dX10_weather_58 rfl (lv_at hl 1 rfl) ?_
          refine lv_imul hx hb dX10_weather_59 ?_
          refine lv_topi (fun x_66 e_67 => ?_)
          have i_x_66 : x_66.toInt = 192 * a1.toInt := by rw [e_67]; exact (q_mul (by rw [show (192 : Int32).toInt = 192 by decide]; omega) (by rw [show (192 : Int32).toInt = 192 by decide]; omega)).trans (by rw [show (192 : Int32).toInt = 192 by decide])
          refine lv_iconst (v := 2) hx hb dX10_weather_60 (by decide) ?_
          refine lv_iload_n hx hb dX10_weather_61 rfl (lv_at hl 2 rfl) ?_
          refine lv_pc (pc2 := 62) rfl ?_
          refine lv_imul hx hb dX10_weather_62 ?_
          refine lv_topi (fun x_68 e_69 => ?_)
          have i_x_68 : x_68.toInt = 2 * a2.toInt := by rw [e_69]; exact (q_mul (by rw [show (2 : Int32).toInt = 2 by decide]; omega) (by rw [show (2 : Int32).toInt = 2 by decide]; omega)).trans (by rw [show (2 : Int32).toInt = 2 by decide])
          refine lv_iadd hx hb dX10_weather_63 ?_
          refine lv_topi (fun x_70 e_71 => ?_)
          have i_x_70 : x_70.toInt = x_66.toInt + x_68.toInt := by rw [e_71]; exact (q_add (by omega) (by omega)).trans (by rfl)
          refine lv_iload_n hx hb dX10_weather_64 rfl (lv_at hl 3 rfl) ?_
          obtain ⟨f_72, at_73⟩ := fF_o46 hG h_24
          have b_74 : vp_in x_70 384 := (q_in (by omega) (by omega))
          refine ty_iast (F2 := (fF cI cL cC 0 0)) hx hb hK hG hS 0 at_73 (by rw [h_24]; rfl) rfl b_74 (by rw [h_24]; exact ⟨_, rfl⟩) tFF dX10_weather_65 (fun H locs hG hS at_75 o_76 => ?_)
          have at_65 := va_at.keptK at_65 o_76 h_24 k_a0 rfl
          refine lv_aload_n hx hb dX10_weather_66 rfl (lv_at hl 0 rfl) ?_
          refine va_get (D := D) (ci := 9) (v := .ref r_23) (C := RX10) (T := TX10) (N := 36) hx hb hts in10 hown hK (va_one at_65) 0 rfl rfl 9 (by decide) (hts (.fieldLink RX10 25 "RiverModelModel" "weather" "[I") (List.mem_of_getElem? (i := 8) rfl)) (fun _ h9 => h9) rfl dX10_weather_67 ?_
          refine lv_sipush (v := 192) hx hb dX10_weather_70 (by decide) ?_
          refine lv_iload_n hx hb dX10_weather_73 rfl (lv_at hl 1 rfl) ?_
          refine lv_pc (pc2 := 74) rfl ?_
          refine lv_imul hx hb dX10_weather_74 ?_
          refine lv_topi (fun x_77 e_78 => ?_)
          have i_x_77 : x_77.toInt = 192 * a1.toInt := by rw [e_78]; exact (q_mul (by rw [show (192 : Int32).toInt = 192 by decide]; omega) (by rw [show (192 : Int32).toInt = 192 by decide]; omega)).trans (by rw [show (192 : Int32).toInt = 192 by decide])
          refine lv_iconst (v := 2) hx hb dX10_weather_75 (by decide) ?_
          refine lv_iload_n hx hb dX10_weather_76 rfl (lv_at hl 2 rfl) ?_
          refine lv_imul hx hb dX10_weather_77 ?_
          refine lv_topi (fun x_79 e_80 => ?_)
          have i_x_79 : x_79.toInt = 2 * a2.toInt := by rw [e_80]; exact (q_mul (by rw [show (2 : Int32).toInt = 2 by decide]; omega) (by rw [show (2 : Int32).toInt = 2 by decide]; omega)).trans (by rw [show (2 : Int32).toInt = 2 by decide])
          refine lv_iadd hx hb dX10_weather_78 ?_
          refine lv_topi (fun x_81 e_82 => ?_)
          have i_x_81 : x_81.toInt = x_77.toInt + x_79.toInt := by rw [e_82]; exact (q_add (by omega) (by omega)).trans (by rfl)
          refine lv_iconst (v := 1) hx hb dX10_weather_79 (by decide) ?_
          refine lv_iadd hx hb dX10_weather_80 ?_
          refine lv_topi (fun x_83 e_84 => ?_)
          have i_x_83 : x_83.toInt = x_81.toInt + 1 := by rw [e_84]; exact (q_add (by rw [show (1 : Int32).toInt = 1 by decide]; omega) (by rw [show (1 : Int32).toInt = 1 by decide]; omega)).trans (by rw [show (1 : Int32).toInt = 1 by decide])
          refine lv_iload hx hb dX10_weather_81 (lv_at hl 4 rfl) ?_
          refine lv_pc (pc2 := 83) rfl ?_
          obtain ⟨f_85, at_86⟩ := fF_o46 hG h_24
          have b_87 : vp_in x_83 384 := (q_in (by omega) (by omega))
          refine ty_iast (F2 := (fF cI cL cC 0 0)) hx hb hK hG hS 0 at_86 (by rw [h_24]; rfl) rfl b_87 (by rw [h_24]; exact ⟨_, rfl⟩) tFF dX10_weather_83 (fun H locs hG hS at_88 o_89 => ?_)
          have at_65 := va_at.keptK at_65 o_89 h_24 k_a0 rfl
          refine lv_iconst (v := 0) hx hb dX10_weather_84 (by decide) ?_
          exact ty_iret hx hb hr hlk hG hS (by first | exact Or.inl ⟨rfl, by omega⟩ | exact Or.inr ⟨rfl, by omega⟩ | exact Or.inr (Or.inl ⟨rfl, by omega⟩) | exact Or.inr (Or.inr ⟨rfl, by omega⟩) | exact ⟨rfl, by omega⟩ | omega | trivial | rfl | (exfalso; omega)) dX10_weather_85
        · skip
          refine lv_if_ne (tgt := 51) hx hb dX10_weather_46 (by decide) (fun q => absurd rfl q) (fun _ => ?_)
          refine lv_iconst (v := (-1)) hx hb dX10_weather_49 (by decide) ?_
          exact ty_iret hx hb hr hlk hG hS (by first | exact Or.inl ⟨rfl, by omega⟩ | exact Or.inr ⟨rfl, by omega⟩ | exact Or.inr (Or.inl ⟨rfl, by omega⟩) | exact Or.inr (Or.inr ⟨rfl, by omega⟩) | exact ⟨rfl, by omega⟩ | omega | trivial | rfl | (exfalso; omega)) dX10_weather_50
      · skip
        refine lv_if_eq (tgt := 49) hx hb dX10_weather_31 (by decide) (fun _ => ?_) (fun q => absurd (by decide) q)
        refine lv_iconst (v := (-1)) hx hb dX10_weather_49 (by decide) ?_
        refine lv_pc (pc2 := 50) rfl ?_
        exact ty_iret hx hb hr hlk hG hS (by first | exact Or.inl ⟨rfl, by omega⟩ | exact Or.inr ⟨rfl, by omega⟩ | exact Or.inr (Or.inl ⟨rfl, by omega⟩) | exact Or.inr (Or.inr ⟨rfl, by omega⟩) | exact ⟨rfl, by omega⟩ | omega | trivial | rfl | (exfalso; omega)) dX10_weather_50
    · skip
      refine lv_if_eq (tgt := 49) hx hb dX10_weather_19 (by decide) (fun _ => ?_) (fun q => absurd (by decide) q)
      refine lv_iconst (v := (-1)) hx hb dX10_weather_49 (by decide) ?_
      exact ty_iret hx hb hr hlk hG hS (by first | exact Or.inl ⟨rfl, by omega⟩ | exact Or.inr ⟨rfl, by omega⟩ | exact Or.inr (Or.inl ⟨rfl, by omega⟩) | exact Or.inr (Or.inr ⟨rfl, by omega⟩) | exact ⟨rfl, by omega⟩ | omega | trivial | rfl | (exfalso; omega)) dX10_weather_50
  · skip
    refine lv_if_eq (tgt := 49) hx hb dX10_weather_7 (by decide) (fun _ => ?_) (fun q => absurd (by decide) q)
    refine lv_iconst (v := (-1)) hx hb dX10_weather_49 (by decide) ?_
    exact ty_iret hx hb hr hlk hG hS (by first | exact Or.inl ⟨rfl, by omega⟩ | exact Or.inr ⟨rfl, by omega⟩ | exact Or.inr (Or.inl ⟨rfl, by omega⟩) | exact Or.inr (Or.inr ⟨rfl, by omega⟩) | exact ⟨rfl, by omega⟩ | omega | trivial | rfl | (exfalso; omega)) dX10_weather_50

def uX10_faultOf : List Cond := .code yX10_faultOf cX10_faultOf 4 (some .int) :: ([.fieldLink RX10 148 "RiverModelModel" "readItems" "I", .fieldLink RX10 89 "RiverModelModel" "length" "I"] ++ wsX100)
set_option maxHeartbeats 4000000 in
set_option maxRecDepth 100000 in
theorem c_X10_faultOf (l : Launch) (D : va_G) (t : Nat → Nat) (cI cL cC : ClassId) (a0 : Nat) (k_a0 : t a0 = 40) : tM l yX10_faultOf uX10_faultOf 0 0 D (fF cI cL cC 0 0) (fF cI cL cC 0 0) t cI cL cC [.ref a0] wrM (pI (fun r => r = -4)) := by
  refine tM.ofW (cc := cX10_faultOf) (maxL := 4) (ret := (some .int)) (by decide) rfl (Nat.le_of_ble_eq_true rfl) ?_
  intro p e s m below meth c hx hb hr hml hown hts hlk H locs hG hK hE hS ls hl
  have hl : lv_has ls 4 [(0, .ref a0)] := hl
  have in10 : ∀ w ∈ wsX100, w ∈ uX10_faultOf := fun w h => List.mem_cons_of_mem _ (List.mem_append_right _ h)
  refine lv_iconst (v := 0) hx hb dX10_faultOf_0 (by decide) ?_
  refine lv_istore_n (lv' := [(1, .int 0), (0, .ref a0)]) hx hb dX10_faultOf_1 rfl hl (by decide) rfl (fun ls hl => ?_)
  refine lv_iconst (v := 0) hx hb dX10_faultOf_2 (by decide) ?_
  refine lv_istore_n (lv' := [(2, .int 0), (1, .int 0), (0, .ref a0)]) hx hb dX10_faultOf_3 rfl hl (by decide) rfl (fun ls hl => ?_)
  refine lv_iconst (v := 0) hx hb dX10_faultOf_4 (by decide) ?_
  refine lv_istore_n (lv' := [(3, .int 0), (2, .int 0), (1, .int 0), (0, .ref a0)]) hx hb dX10_faultOf_5 rfl hl (by decide) rfl (fun ls hl => ?_)
  refine lv_aload_n hx hb dX10_faultOf_6 rfl (lv_at hl 3 rfl) ?_
  refine lv_pc (pc2 := 7) rfl ?_
  refine lv_iconst (v := 0) hx hb dX10_faultOf_7 (by decide) ?_
  obtain ⟨r_1, r_3, r_5, r_7, r_9, r_11, r_13, r_15, r_17, r_19, r_21, r_23, r_25, r_27, r_29, r_31, r_33, r_35, r_37, r_39, r_41, v_43, v_44, v_45, v_46, v_47, r_48, v_50, r_51, at_53, h_2, h_4, h_6, h_8, h_10, h_12, h_14, h_16, h_18, h_20, h_22, h_24, h_26, h_28, h_30, h_32, h_34, h_36, h_38, h_40, h_42, h_49, h_52⟩ := fF_o40 hG k_a0
  refine ty_put (D := D) (ci := 9) (v := .int 0) (ty := .int) (C := RX10) (T := TX10) (N := 36) (F2 := (fF cI cL cC 0 0)) hx hb hts in10 tyX10 tyX10_ok nmX10 hown hK hG hS at_53 (by rw [k_a0]; rfl) rfl 33 (by decide) (hts (.fieldLink RX10 148 "RiverModelModel" "readItems" "I") (List.mem_of_getElem? (i := 1) rfl)) (fun _ h9 => h9) rfl (by decide +kernel) rfl rfl (Nat.le_of_ble_eq_true rfl) (by rw [k_a0]; exact ⟨r_1, r_3, r_5, r_7, r_9, r_11, r_13, r_15, r_17, r_19, r_21, r_23, r_25, r_27, r_29, r_31, r_33, r_35, r_37, r_39, r_41, v_43, v_44, v_45, v_46, v_47, r_48, v_50, r_51, rfl, h_2, h_4, h_6, h_8, h_10, h_12, h_14, h_16, h_18, h_20, h_22, h_24, h_26, h_28, h_30, h_32, h_34, h_36, h_38, h_40, h_42, h_49, h_52⟩) tFF dX10_faultOf_8 (fun H locs hG hS at_54 o_55 => ?_)
  have at_54 : va_at D vwCl (a0, .inr (9, [.int 0, .ref r_1, .int 0, .int 0, .ref r_3, .ref r_5, .ref r_7, .ref r_9, .int 0, .ref r_11, .ref r_13, .ref r_15, .ref r_17, .int 0, .ref r_19, .ref r_21, .ref r_23, .int 0, .ref r_25, .ref r_27, .ref r_29, .ref r_31, .ref r_33, .ref r_35, .ref r_37, .ref r_39, .ref r_41, .int v_43, .int v_44, .int v_45, .int v_46, .int v_47, .ref r_48, .int 0, .int v_50, .ref r_51])) H := at_54
  refine lv_iload_n hx hb dX10_faultOf_11 rfl (lv_at hl 2 rfl) ?_
  refine lv_aload_n hx hb dX10_faultOf_12 rfl (lv_at hl 3 rfl) ?_
  refine va_get (D := D) (ci := 9) (v := .int 0) (C := RX10) (T := TX10) (N := 36) hx hb hts in10 hown hK (va_one at_54) 0 rfl rfl 0 (by decide) (hts (.fieldLink RX10 89 "RiverModelModel" "length" "I") (List.mem_of_getElem? (i := 2) rfl)) (fun _ h9 => h9) rfl dX10_faultOf_13 ?_
  refine lv_icmp_ge (tgt := 106) hx hb dX10_faultOf_16 (by decide) (fun _ => ?_) (fun q => absurd (by decide) q)
  refine lv_bipush (v := (-4)) hx hb dX10_faultOf_106 (by decide) ?_
  exact ty_iret hx hb hr hlk hG hS (by first | exact Or.inl ⟨rfl, by omega⟩ | exact Or.inr ⟨rfl, by omega⟩ | exact Or.inr (Or.inl ⟨rfl, by omega⟩) | exact Or.inr (Or.inr ⟨rfl, by omega⟩) | exact ⟨rfl, by omega⟩ | omega | trivial | rfl | (exfalso; omega)) dX10_faultOf_108

def uX10_fault : List Cond := .code yX10_fault cX10_fault 1 (some .int) :: ([.methodLink RX10 159 yX10_faultOf, .instanceMethod yX10_faultOf, .selects RX10 yX10_faultOf yX10_faultOf, .initialized RX10, .code yX10_faultOf cX10_faultOf 4 (some .int), .fieldLink RX10 148 "RiverModelModel" "readItems" "I", .fieldLink RX10 89 "RiverModelModel" "length" "I"] ++ wsX100)
set_option maxRecDepth 20000 in
theorem gu_X10_fault_X10_faultOf_159 : GoodIn uX10_fault (wsV RX10 159 RX10 yX10_faultOf uX10_faultOf) := goodIn_r _ [1, 2, 3, 4, 5, 6, 7, 8, 9, 10, 11, 12, 13, 14, 15, 16, 17, 18, 19, 20, 21, 22, 23, 24, 25, 26, 27, 28, 29, 30, 31, 32, 33, 34, 35, 36, 37, 38, 39, 40, 41, 42, 43] (by decide +kernel) (by decide +kernel)
set_option maxHeartbeats 4000000 in
set_option maxRecDepth 100000 in
theorem c_X10_fault (l : Launch) (D : va_G) (t : Nat → Nat) (cI cL cC : ClassId) (a0 : Nat) (k_a0 : t a0 = 40) : tM l yX10_fault uX10_fault 1 23 D (fF cI cL cC 0 0) (fF cI cL cC 0 0) t cI cL cC [.ref a0] wrM (pI (fun r => r = (-4))) := by
  refine tM.ofW (cc := cX10_fault) (maxL := 1) (ret := (some .int)) (by decide) rfl (Nat.le_of_ble_eq_true rfl) ?_
  intro p e s m below meth c hx hb hr hml hown hts hlk H locs hG hK hE hS ls hl
  have hl : lv_has ls 1 [(0, .ref a0)] := hl
  skip
  refine lv_aload_n hx hb dX10_fault_0 rfl (lv_at hl 0 rfl) ?_
  obtain ⟨r_1, r_3, r_5, r_7, r_9, r_11, r_13, r_15, r_17, r_19, r_21, r_23, r_25, r_27, r_29, r_31, r_33, r_35, r_37, r_39, r_41, v_43, v_44, v_45, v_46, v_47, r_48, v_50, r_51, at_53, h_2, h_4, h_6, h_8, h_10, h_12, h_14, h_16, h_18, h_20, h_22, h_24, h_26, h_28, h_30, h_32, h_34, h_36, h_38, h_40, h_42, h_49, h_52⟩ := fF_o40 hG k_a0
  refine ty_calli ((W.runV (As := []) (rest := []) ⟨hx, hb, hml, hown, hts⟩ (c_X10_faultOf l D t cI cL cC a0 k_a0) (cwV 0 hts gu_X10_fault_X10_faultOf_159 rfl rfl rfl (by decide +kernel) ⟨Nat.le_of_ble_eq_true rfl, Nat.le_of_ble_eq_true rfl⟩) (tP_V hG hE at_53 rfl) rfl rfl hl.1 rfl (lv_room (Nat.le_of_ble_eq_true rfl)) dX10_fault_1 ⟨Nat.le_of_ble_eq_true rfl, Nat.le_of_ble_eq_true rfl⟩)) hS (fun _ h => h) (fun r_54 H locs hp_55 hG hS o_56 => ?_)
  rcases hp_55 with rfl
  exact ty_iret hx hb hr hlk hG hS (by first | exact Or.inl ⟨rfl, by omega⟩ | exact Or.inr ⟨rfl, by omega⟩ | exact Or.inr (Or.inl ⟨rfl, by omega⟩) | exact Or.inr (Or.inr ⟨rfl, by omega⟩) | exact ⟨rfl, by omega⟩ | omega | trivial | rfl | (exfalso; omega)) dX10_fault_4

def uX10_build : List Cond := .code yX10_build cX10_build 3 (some .int) :: ([.methodLink RX10 159 yX10_faultOf, .instanceMethod yX10_faultOf, .selects RX10 yX10_faultOf yX10_faultOf, .initialized RX10, .fieldLink RX10 148 "RiverModelModel" "readItems" "I", .code yX10_faultOf cX10_faultOf 4 (some .int), .fieldLink RX10 89 "RiverModelModel" "length" "I"] ++ wsX100)
set_option maxRecDepth 20000 in
theorem gu_X10_build_X10_faultOf_159 : GoodIn uX10_build (wsV RX10 159 RX10 yX10_faultOf uX10_faultOf) := goodIn_r _ [1, 2, 3, 4, 6, 5, 7, 8, 9, 10, 11, 12, 13, 14, 15, 16, 17, 18, 19, 20, 21, 22, 23, 24, 25, 26, 27, 28, 29, 30, 31, 32, 33, 34, 35, 36, 37, 38, 39, 40, 41, 42, 43] (by decide +kernel) (by decide +kernel)
set_option maxHeartbeats 4000000 in
set_option maxRecDepth 100000 in
theorem c_X10_build (l : Launch) (D : va_G) (t : Nat → Nat) (cI cL cC : ClassId) (a0 : Nat) (k_a0 : t a0 = 40) : tM l yX10_build uX10_build 1 23 D (fF cI cL cC 0 0) (fF cI cL cC 0 0) t cI cL cC [.ref a0] wrM (pI (fun r => r = (-2))) := by
  refine tM.ofW (cc := cX10_build) (maxL := 3) (ret := (some .int)) (by decide) rfl (Nat.le_of_ble_eq_true rfl) ?_
  intro p e s m below meth c hx hb hr hml hown hts hlk H locs hG hK hE hS ls hl
  have hl : lv_has ls 3 [(0, .ref a0)] := hl
  have in10 : ∀ w ∈ wsX100, w ∈ uX10_build := fun w h => List.mem_cons_of_mem _ (List.mem_append_right _ h)
  refine lv_aload_n hx hb dX10_build_0 rfl (lv_at hl 0 rfl) ?_
  obtain ⟨r_1, r_3, r_5, r_7, r_9, r_11, r_13, r_15, r_17, r_19, r_21, r_23, r_25, r_27, r_29, r_31, r_33, r_35, r_37, r_39, r_41, v_43, v_44, v_45, v_46, v_47, r_48, v_50, r_51, at_53, h_2, h_4, h_6, h_8, h_10, h_12, h_14, h_16, h_18, h_20, h_22, h_24, h_26, h_28, h_30, h_32, h_34, h_36, h_38, h_40, h_42, h_49, h_52⟩ := fF_o40 hG k_a0
  refine ty_calli ((W.runV (As := []) (rest := []) ⟨hx, hb, hml, hown, hts⟩ (c_X10_faultOf l D t cI cL cC a0 k_a0) (cwV 0 hts gu_X10_build_X10_faultOf_159 rfl rfl rfl (by decide +kernel) ⟨Nat.le_of_ble_eq_true rfl, Nat.le_of_ble_eq_true rfl⟩) (tP_V hG hE at_53 rfl) rfl rfl hl.1 rfl (lv_room (Nat.le_of_ble_eq_true rfl)) dX10_build_1 ⟨Nat.le_of_ble_eq_true rfl, Nat.le_of_ble_eq_true rfl⟩)) hS (fun _ h => h) (fun r_54 H locs hp_55 hG hS o_56 => ?_)
  rcases hp_55 with rfl
  refine lv_bipush (v := (-4)) hx hb dX10_build_4 (by decide) ?_
  refine lv_icmp_eq (tgt := 12) hx hb dX10_build_6 (by decide) (fun _ => ?_) (fun q => absurd (by decide) q)
  refine lv_iconst (v := 0) hx hb dX10_build_12 (by decide) ?_
  refine lv_istore_n (lv' := [(1, .int 0), (0, .ref a0)]) hx hb dX10_build_13 rfl hl (by decide) rfl (fun ls hl => ?_)
  refine lv_iconst (v := 0) hx hb dX10_build_14 (by decide) ?_
  refine lv_pc (pc2 := 15) rfl ?_
  refine lv_istore_n (lv' := [(2, .int 0), (1, .int 0), (0, .ref a0)]) hx hb dX10_build_15 rfl hl (by decide) rfl (fun ls hl => ?_)
  refine lv_iload_n hx hb dX10_build_16 rfl (lv_at hl 0 rfl) ?_
  refine lv_aload_n hx hb dX10_build_17 rfl (lv_at hl 2 rfl) ?_
  obtain ⟨r_57, r_59, r_61, r_63, r_65, r_67, r_69, r_71, r_73, r_75, r_77, r_79, r_81, r_83, r_85, r_87, r_89, r_91, r_93, r_95, r_97, v_99, v_100, v_101, v_102, v_103, r_104, v_106, r_107, at_109, h_58, h_60, h_62, h_64, h_66, h_68, h_70, h_72, h_74, h_76, h_78, h_80, h_82, h_84, h_86, h_88, h_90, h_92, h_94, h_96, h_98, h_105, h_108⟩ := fF_o40 hG k_a0
  refine va_get (D := D) (ci := 9) (v := .int 0) (C := RX10) (T := TX10) (N := 36) hx hb hts in10 hown hK (va_one at_109) 0 rfl rfl 33 (by decide) (hts (.fieldLink RX10 148 "RiverModelModel" "readItems" "I") (List.mem_of_getElem? (i := 5) rfl)) (fun _ h9 => h9) rfl dX10_build_18 ?_
  refine lv_icmp_ge (tgt := 54) hx hb dX10_build_21 (by decide) (fun _ => ?_) (fun q => absurd (by decide) q)
  refine lv_iload_n hx hb dX10_build_54 rfl (lv_at hl 1 rfl) ?_
  refine lv_if_ne (tgt := 61) hx hb dX10_build_55 (by decide) (fun q => absurd rfl q) (fun _ => ?_)
  refine lv_bipush (v := (-2)) hx hb dX10_build_58 (by decide) ?_
  refine lv_pc (pc2 := 60) rfl ?_
  exact ty_iret hx hb hr hlk hG hS (by first | exact Or.inl ⟨rfl, by omega⟩ | exact Or.inr ⟨rfl, by omega⟩ | exact Or.inr (Or.inl ⟨rfl, by omega⟩) | exact Or.inr (Or.inr ⟨rfl, by omega⟩) | exact ⟨rfl, by omega⟩ | omega | trivial | rfl | (exfalso; omega)) dX10_build_60

def uX10_ends : List Cond := .code yX10_ends cX10_ends 3 (some .int) :: ([.constantLong RX10 256 (100000), .methodLink RX10 85 yX10_in, .static yX10_in, .initialized RX10, .fieldLink RX10 258 "RiverModelModel" "ends" "I", .code yX10_in cX10_in 6 (some .boolean)] ++ wsX100)
set_option maxRecDepth 20000 in
theorem gu_X10_ends_X10_in_85 : GoodIn uX10_ends (va_wsS RX10 85 yX10_in uX10_in) := goodIn_r _ [2, 3, 4, 6] (by decide +kernel) (by decide +kernel)
set_option maxHeartbeats 4000000 in
set_option maxRecDepth 100000 in
theorem c_X10_ends (l : Launch) (D : va_G) (t : Nat → Nat) (cI cL cC : ClassId) (a0 : Nat) (a1 : Int32) (k_a0 : t a0 = 40) : tM l yX10_ends uX10_ends 1 25 D (fF cI cL cC 0 0) fT t cI cL cC [.ref a0, .int a1] wrM (pI (fun r => (r = (-1) ∧ (a1.toInt < 0 ∨ 100000 < a1.toInt)) ∨ (r = 0 ∧ 0 ≤ a1.toInt ∧ a1.toInt ≤ 100000))) := by
  refine tM.ofW (cc := cX10_ends) (maxL := 3) (ret := (some .int)) (by decide) rfl (Nat.le_of_ble_eq_true rfl) ?_
  intro p e s m below meth c hx hb hr hml hown hts hlk H locs hG hK hE hS ls hl
  have hl : lv_has ls 3 [(0, .ref a0), (1, .int a1)] := hl
  have in10 : ∀ w ∈ wsX100, w ∈ uX10_ends := fun w h => List.mem_cons_of_mem _ (List.mem_append_right _ h)
  refine lv_iload_n hx hb dX10_ends_0 rfl (lv_at hl 1 rfl) ?_
  refine lv_i2l (v := a1.toInt64) hx hb dX10_ends_1 rfl ?_
  refine lv_lconst (v := 0) hx hb dX10_ends_2 (by decide) ?_
  refine lv_ldc2 hx hb hown (hts (.constantLong RX10 256 (100000)) (List.mem_of_getElem? (i := 1) rfl)) dX10_ends_3 ?_
  refine ty_calli ((W.runS (As := [.long a1.toInt64, .long 0, .long 100000]) (rest := []) ⟨hx, hb, hml, hown, hts⟩ (c_in l D t cI cL cC 0 0 a1.toInt64 0 100000 a1.toInt 0 100000 (q_i2l _) (by decide) (by decide) ) (va_cwS 3 hts gu_X10_ends_X10_in_85 rfl rfl rfl (by decide +kernel) ⟨Nat.le_of_ble_eq_true rfl, Nat.le_of_ble_eq_true rfl⟩) (tP_S hG hE) rfl rfl hl.1 rfl (lv_room (Nat.le_of_ble_eq_true rfl)) dX10_ends_6 ⟨Nat.le_of_ble_eq_true rfl, Nat.le_of_ble_eq_true rfl⟩)) hS (fun k h => by simp [wr0] at h) (fun r_1 H locs hp_2 hG hS o_3 => ?_)
  rcases hp_2 with ⟨rfl, hc_343, hc_344⟩ | ⟨rfl, hc_345⟩
  · skip
    refine lv_if_ne (tgt := 14) hx hb dX10_ends_9 (by decide) (fun _ => ?_) (fun q => absurd q (by decide))
    refine lv_aload_n hx hb dX10_ends_14 rfl (lv_at hl 0 rfl) ?_
    refine lv_pc (pc2 := 15) rfl ?_
    obtain ⟨r_4, r_6, r_8, r_10, r_12, r_14, r_16, r_18, r_20, r_22, r_24, r_26, r_28, r_30, r_32, r_34, r_36, r_38, r_40, r_42, r_44, v_46, v_47, v_48, v_49, v_50, r_51, v_53, r_54, at_56, h_5, h_7, h_9, h_11, h_13, h_15, h_17, h_19, h_21, h_23, h_25, h_27, h_29, h_31, h_33, h_35, h_37, h_39, h_41, h_43, h_45, h_52, h_55⟩ := fF_o40 hG k_a0
    refine va_get (D := D) (ci := 9) (v := .int 0) (C := RX10) (T := TX10) (N := 36) hx hb hts in10 hown hK (va_one at_56) 0 rfl rfl 17 (by decide) (hts (.fieldLink RX10 258 "RiverModelModel" "ends" "I") (List.mem_of_getElem? (i := 5) rfl)) (fun _ h9 => h9) rfl dX10_ends_15 ?_
    refine lv_istore_n (lv' := [(2, .int 0), (0, .ref a0), (1, .int a1)]) hx hb dX10_ends_18 rfl hl (by decide) rfl (fun ls hl => ?_)
    refine lv_aload_n hx hb dX10_ends_19 rfl (lv_at hl 1 rfl) ?_
    refine lv_iload_n hx hb dX10_ends_20 rfl (lv_at hl 2 rfl) ?_
    refine ty_put (D := D) (ci := 9) (v := .int a1) (ty := .int) (C := RX10) (T := TX10) (N := 36) (F2 := fT) hx hb hts in10 tyX10 tyX10_ok nmX10 hown hK hG hS at_56 (by rw [k_a0]; rfl) rfl 17 (by decide) (hts (.fieldLink RX10 258 "RiverModelModel" "ends" "I") (List.mem_of_getElem? (i := 5) rfl)) (fun _ h9 => h9) rfl (by decide +kernel) rfl rfl (Nat.le_of_ble_eq_true rfl) True.intro (fun hG b _ h0 => by obtain ⟨e, g1, _⟩ := hG b h0; exact ⟨e, g1, True.intro⟩) dX10_ends_21 (fun H locs hG hS at_57 o_58 => ?_)
    have at_57 : va_at D vwCl (a0, .inr (9, [.int 0, .ref r_4, .int 0, .int 0, .ref r_6, .ref r_8, .ref r_10, .ref r_12, .int 0, .ref r_14, .ref r_16, .ref r_18, .ref r_20, .int 0, .ref r_22, .ref r_24, .ref r_26, .int a1, .ref r_28, .ref r_30, .ref r_32, .ref r_34, .ref r_36, .ref r_38, .ref r_40, .ref r_42, .ref r_44, .int v_46, .int v_47, .int v_48, .int v_49, .int v_50, .ref r_51, .int 0, .int v_53, .ref r_54])) H := at_57
    refine lv_iload_n hx hb dX10_ends_24 rfl (lv_at hl 0 rfl) ?_
    exact ty_iret hx hb hr hlk hG hS (by first | exact Or.inl ⟨rfl, by omega⟩ | exact Or.inr ⟨rfl, by omega⟩ | exact Or.inr (Or.inl ⟨rfl, by omega⟩) | exact Or.inr (Or.inr ⟨rfl, by omega⟩) | exact ⟨rfl, by omega⟩ | omega | trivial | rfl | (exfalso; omega)) dX10_ends_25
  · skip
    refine lv_if_ne (tgt := 14) hx hb dX10_ends_9 (by decide) (fun q => absurd rfl q) (fun _ => ?_)
    refine lv_pc (pc2 := 12) rfl ?_
    refine lv_iconst (v := (-1)) hx hb dX10_ends_12 (by decide) ?_
    exact ty_iret hx hb hr hlk hG.toT hS (by first | exact Or.inl ⟨rfl, by omega⟩ | exact Or.inr ⟨rfl, by omega⟩ | exact Or.inr (Or.inl ⟨rfl, by omega⟩) | exact Or.inr (Or.inr ⟨rfl, by omega⟩) | exact ⟨rfl, by omega⟩ | omega | trivial | rfl | (exfalso; omega)) dX10_ends_13

def uX10_weigh : List Cond := .code yX10_weigh cX10_weigh 4 (some .int) :: ([.constantLong RX10 243 (3), .methodLink RX10 85 yX10_in, .static yX10_in, .initialized RX10, .constantLong RX10 107 (100), .fieldLink RX10 62 "RiverModelModel" "weight" "[I", .code yX10_in cX10_in 6 (some .boolean)] ++ wsX100)
set_option maxRecDepth 20000 in
theorem gu_X10_weigh_X10_in_85 : GoodIn uX10_weigh (va_wsS RX10 85 yX10_in uX10_in) := goodIn_r _ [2, 3, 4, 7] (by decide +kernel) (by decide +kernel)
set_option maxHeartbeats 4000000 in
set_option maxRecDepth 100000 in
theorem c_X10_weigh (l : Launch) (D : va_G) (t : Nat → Nat) (cI cL cC : ClassId) (a0 : Nat) (a1 : Int32) (a2 : Int32) (k_a0 : t a0 = 40) : tM l yX10_weigh uX10_weigh 1 25 D (fF cI cL cC 0 0) fT t cI cL cC [.ref a0, .int a1, .int a2] wrM (pI (fun r => (r = (-1) ∧ (a1.toInt < 0 ∨ 3 < a1.toInt ∨ a2.toInt < 0 ∨ 100 < a2.toInt)) ∨ (r = 0 ∧ 0 ≤ a1.toInt ∧ a1.toInt ≤ 3 ∧ 0 ≤ a2.toInt ∧ a2.toInt ≤ 100))) := by
  refine tM.ofW (cc := cX10_weigh) (maxL := 4) (ret := (some .int)) (by decide) rfl (Nat.le_of_ble_eq_true rfl) ?_
  intro p e s m below meth c hx hb hr hml hown hts hlk H locs hG hK hE hS ls hl
  have hl : lv_has ls 4 [(0, .ref a0), (1, .int a1), (2, .int a2)] := hl
  have in10 : ∀ w ∈ wsX100, w ∈ uX10_weigh := fun w h => List.mem_cons_of_mem _ (List.mem_append_right _ h)
  refine lv_iload_n hx hb dX10_weigh_0 rfl (lv_at hl 1 rfl) ?_
  refine lv_i2l (v := a1.toInt64) hx hb dX10_weigh_1 rfl ?_
  refine lv_lconst (v := 0) hx hb dX10_weigh_2 (by decide) ?_
  refine lv_ldc2 hx hb hown (hts (.constantLong RX10 243 (3)) (List.mem_of_getElem? (i := 1) rfl)) dX10_weigh_3 ?_
  refine ty_calli ((W.runS (As := [.long a1.toInt64, .long 0, .long 3]) (rest := []) ⟨hx, hb, hml, hown, hts⟩ (c_in l D t cI cL cC 0 0 a1.toInt64 0 3 a1.toInt 0 3 (q_i2l _) (by decide) (by decide) ) (va_cwS 3 hts gu_X10_weigh_X10_in_85 rfl rfl rfl (by decide +kernel) ⟨Nat.le_of_ble_eq_true rfl, Nat.le_of_ble_eq_true rfl⟩) (tP_S hG hE) rfl rfl hl.1 rfl (lv_room (Nat.le_of_ble_eq_true rfl)) dX10_weigh_6 ⟨Nat.le_of_ble_eq_true rfl, Nat.le_of_ble_eq_true rfl⟩)) hS (fun k h => by simp [wr0] at h) (fun r_1 H locs hp_2 hG hS o_3 => ?_)
  rcases hp_2 with ⟨rfl, hc_346, hc_347⟩ | ⟨rfl, hc_348⟩
  · skip
    refine lv_if_eq (tgt := 24) hx hb dX10_weigh_9 (by decide) (fun q => absurd q (by decide)) (fun _ => ?_)
    refine lv_iload_n hx hb dX10_weigh_12 rfl (lv_at hl 2 rfl) ?_
    refine lv_pc (pc2 := 13) rfl ?_
    refine lv_i2l (v := a2.toInt64) hx hb dX10_weigh_13 rfl ?_
    refine lv_lconst (v := 0) hx hb dX10_weigh_14 (by decide) ?_
    refine lv_ldc2 hx hb hown (hts (.constantLong RX10 107 (100)) (List.mem_of_getElem? (i := 5) rfl)) dX10_weigh_15 ?_
    refine ty_calli ((W.runS (As := [.long a2.toInt64, .long 0, .long 100]) (rest := []) ⟨hx, hb, hml, hown, hts⟩ (c_in l D t cI cL cC 0 0 a2.toInt64 0 100 a2.toInt 0 100 (q_i2l _) (by decide) (by decide) ) (va_cwS 3 hts gu_X10_weigh_X10_in_85 rfl rfl rfl (by decide +kernel) ⟨Nat.le_of_ble_eq_true rfl, Nat.le_of_ble_eq_true rfl⟩) (tP_S hG hE) rfl rfl hl.1 rfl (lv_room (Nat.le_of_ble_eq_true rfl)) dX10_weigh_18 ⟨Nat.le_of_ble_eq_true rfl, Nat.le_of_ble_eq_true rfl⟩)) hS (fun k h => by simp [wr0] at h) (fun r_4 H locs hp_5 hG hS o_6 => ?_)
    rcases hp_5 with ⟨rfl, hc_349, hc_350⟩ | ⟨rfl, hc_351⟩
    · skip
      refine lv_if_ne (tgt := 26) hx hb dX10_weigh_21 (by decide) (fun _ => ?_) (fun q => absurd q (by decide))
      refine lv_aload_n hx hb dX10_weigh_26 rfl (lv_at hl 0 rfl) ?_
      obtain ⟨r_7, r_9, r_11, r_13, r_15, r_17, r_19, r_21, r_23, r_25, r_27, r_29, r_31, r_33, r_35, r_37, r_39, r_41, r_43, r_45, r_47, v_49, v_50, v_51, v_52, v_53, r_54, v_56, r_57, at_59, h_8, h_10, h_12, h_14, h_16, h_18, h_20, h_22, h_24, h_26, h_28, h_30, h_32, h_34, h_36, h_38, h_40, h_42, h_44, h_46, h_48, h_55, h_58⟩ := fF_o40 hG k_a0
      refine va_get (D := D) (ci := 9) (v := .ref r_41) (C := RX10) (T := TX10) (N := 36) hx hb hts in10 hown hK (va_one at_59) 0 rfl rfl 23 (by decide) (hts (.fieldLink RX10 62 "RiverModelModel" "weight" "[I") (List.mem_of_getElem? (i := 6) rfl)) (fun _ h9 => h9) rfl dX10_weigh_27 ?_
      refine lv_iload_n hx hb dX10_weigh_30 rfl (lv_at hl 1 rfl) ?_
      refine lv_pc (pc2 := 31) rfl ?_
      obtain ⟨f_60, at_61, h_62⟩ := fF_o58 hG h_42
      have b_63 : vp_in a1 4 := (q_in (by omega) (by omega))
      refine va_iald hx hb hK (va_one at_61) 0 0 rfl rfl b_63 dX10_weigh_31 ?_
      refine lv_seti (y := 0) (h_62 _ (q_inlt b_63)) ?_
      refine lv_istore_n (lv' := [(3, .int 0), (0, .ref a0), (1, .int a1), (2, .int a2)]) hx hb dX10_weigh_32 rfl hl (by decide) rfl (fun ls hl => ?_)
      refine lv_aload_n hx hb dX10_weigh_33 rfl (lv_at hl 1 rfl) ?_
      refine va_get (D := D) (ci := 9) (v := .ref r_41) (C := RX10) (T := TX10) (N := 36) hx hb hts in10 hown hK (va_one at_59) 0 rfl rfl 23 (by decide) (hts (.fieldLink RX10 62 "RiverModelModel" "weight" "[I") (List.mem_of_getElem? (i := 6) rfl)) (fun _ h9 => h9) rfl dX10_weigh_34 ?_
      refine lv_iload_n hx hb dX10_weigh_37 rfl (lv_at hl 2 rfl) ?_
      refine lv_iload_n hx hb dX10_weigh_38 rfl (lv_at hl 3 rfl) ?_
      have b_64 : vp_in a1 4 := (q_in (by omega) (by omega))
      refine ty_iast (F2 := fT) hx hb hK hG hS 0 at_61 (by rw [h_42]; rfl) rfl b_64 True.intro (fun hG b _ h0 => by obtain ⟨e, g1, _⟩ := hG b h0; exact ⟨e, g1, True.intro⟩) dX10_weigh_39 (fun H locs hG hS at_65 o_66 => ?_)
      have at_59 := va_at.keptK at_59 o_66 h_42 k_a0 rfl
      refine lv_iload_n hx hb dX10_weigh_40 rfl (lv_at hl 0 rfl) ?_
      refine lv_pc (pc2 := 41) rfl ?_
      exact ty_iret hx hb hr hlk hG hS (by first | exact Or.inl ⟨rfl, by omega⟩ | exact Or.inr ⟨rfl, by omega⟩ | exact Or.inr (Or.inl ⟨rfl, by omega⟩) | exact Or.inr (Or.inr ⟨rfl, by omega⟩) | exact ⟨rfl, by omega⟩ | omega | trivial | rfl | (exfalso; omega)) dX10_weigh_41
    · skip
      refine lv_if_ne (tgt := 26) hx hb dX10_weigh_21 (by decide) (fun q => absurd rfl q) (fun _ => ?_)
      refine lv_iconst (v := (-1)) hx hb dX10_weigh_24 (by decide) ?_
      exact ty_iret hx hb hr hlk hG.toT hS (by first | exact Or.inl ⟨rfl, by omega⟩ | exact Or.inr ⟨rfl, by omega⟩ | exact Or.inr (Or.inl ⟨rfl, by omega⟩) | exact Or.inr (Or.inr ⟨rfl, by omega⟩) | exact ⟨rfl, by omega⟩ | omega | trivial | rfl | (exfalso; omega)) dX10_weigh_25
  · skip
    refine lv_if_eq (tgt := 24) hx hb dX10_weigh_9 (by decide) (fun _ => ?_) (fun q => absurd (by decide) q)
    refine lv_iconst (v := (-1)) hx hb dX10_weigh_24 (by decide) ?_
    exact ty_iret hx hb hr hlk hG.toT hS (by first | exact Or.inl ⟨rfl, by omega⟩ | exact Or.inr ⟨rfl, by omega⟩ | exact Or.inr (Or.inl ⟨rfl, by omega⟩) | exact Or.inr (Or.inr ⟨rfl, by omega⟩) | exact ⟨rfl, by omega⟩ | omega | trivial | rfl | (exfalso; omega)) dX10_weigh_25

def uX10_rain : List Cond := .code yX10_rain cX10_rain 5 (some .int) :: ([.constantLong RX10 243 (3), .methodLink RX10 85 yX10_in, .static yX10_in, .initialized RX10, .constantLong RX10 289 (23), .constantLong RX10 103 (10000), .fieldLink RX10 65 "RiverModelModel" "ahead" "[I", .code yX10_in cX10_in 6 (some .boolean)] ++ wsX100)
set_option maxRecDepth 20000 in
theorem gu_X10_rain_X10_in_85 : GoodIn uX10_rain (va_wsS RX10 85 yX10_in uX10_in) := goodIn_r _ [2, 3, 4, 8] (by decide +kernel) (by decide +kernel)
set_option maxHeartbeats 4000000 in
set_option maxRecDepth 100000 in
theorem c_X10_rain (l : Launch) (D : va_G) (t : Nat → Nat) (cI cL cC : ClassId) (a0 : Nat) (a1 : Int32) (a2 : Int32) (a3 : Int32) (k_a0 : t a0 = 40) : tM l yX10_rain uX10_rain 1 25 D (fF cI cL cC 0 0) fT t cI cL cC [.ref a0, .int a1, .int a2, .int a3] wrM (pI (fun r => (r = (-1) ∧ (a1.toInt < 0 ∨ 3 < a1.toInt ∨ a2.toInt < 0 ∨ 23 < a2.toInt ∨ a3.toInt < 0 ∨ 10000 < a3.toInt)) ∨ (r = 0 ∧ 0 ≤ a1.toInt ∧ a1.toInt ≤ 3 ∧ 0 ≤ a2.toInt ∧ a2.toInt ≤ 23 ∧ 0 ≤ a3.toInt ∧ a3.toInt ≤ 10000))) := by
  refine tM.ofW (cc := cX10_rain) (maxL := 5) (ret := (some .int)) (by decide) rfl (Nat.le_of_ble_eq_true rfl) ?_
  intro p e s m below meth c hx hb hr hml hown hts hlk H locs hG hK hE hS ls hl
  have hl : lv_has ls 5 [(0, .ref a0), (1, .int a1), (2, .int a2), (3, .int a3)] := hl
  have in10 : ∀ w ∈ wsX100, w ∈ uX10_rain := fun w h => List.mem_cons_of_mem _ (List.mem_append_right _ h)
  refine lv_iload_n hx hb dX10_rain_0 rfl (lv_at hl 1 rfl) ?_
  refine lv_i2l (v := a1.toInt64) hx hb dX10_rain_1 rfl ?_
  refine lv_lconst (v := 0) hx hb dX10_rain_2 (by decide) ?_
  refine lv_ldc2 hx hb hown (hts (.constantLong RX10 243 (3)) (List.mem_of_getElem? (i := 1) rfl)) dX10_rain_3 ?_
  refine ty_calli ((W.runS (As := [.long a1.toInt64, .long 0, .long 3]) (rest := []) ⟨hx, hb, hml, hown, hts⟩ (c_in l D t cI cL cC 0 0 a1.toInt64 0 3 a1.toInt 0 3 (q_i2l _) (by decide) (by decide) ) (va_cwS 3 hts gu_X10_rain_X10_in_85 rfl rfl rfl (by decide +kernel) ⟨Nat.le_of_ble_eq_true rfl, Nat.le_of_ble_eq_true rfl⟩) (tP_S hG hE) rfl rfl hl.1 rfl (lv_room (Nat.le_of_ble_eq_true rfl)) dX10_rain_6 ⟨Nat.le_of_ble_eq_true rfl, Nat.le_of_ble_eq_true rfl⟩)) hS (fun k h => by simp [wr0] at h) (fun r_1 H locs hp_2 hG hS o_3 => ?_)
  rcases hp_2 with ⟨rfl, hc_352, hc_353⟩ | ⟨rfl, hc_354⟩
  · skip
    refine lv_if_eq (tgt := 36) hx hb dX10_rain_9 (by decide) (fun q => absurd q (by decide)) (fun _ => ?_)
    refine lv_iload_n hx hb dX10_rain_12 rfl (lv_at hl 2 rfl) ?_
    refine lv_pc (pc2 := 13) rfl ?_
    refine lv_i2l (v := a2.toInt64) hx hb dX10_rain_13 rfl ?_
    refine lv_lconst (v := 0) hx hb dX10_rain_14 (by decide) ?_
    refine lv_ldc2 hx hb hown (hts (.constantLong RX10 289 (23)) (List.mem_of_getElem? (i := 5) rfl)) dX10_rain_15 ?_
    refine ty_calli ((W.runS (As := [.long a2.toInt64, .long 0, .long 23]) (rest := []) ⟨hx, hb, hml, hown, hts⟩ (c_in l D t cI cL cC 0 0 a2.toInt64 0 23 a2.toInt 0 23 (q_i2l _) (by decide) (by decide) ) (va_cwS 3 hts gu_X10_rain_X10_in_85 rfl rfl rfl (by decide +kernel) ⟨Nat.le_of_ble_eq_true rfl, Nat.le_of_ble_eq_true rfl⟩) (tP_S hG hE) rfl rfl hl.1 rfl (lv_room (Nat.le_of_ble_eq_true rfl)) dX10_rain_18 ⟨Nat.le_of_ble_eq_true rfl, Nat.le_of_ble_eq_true rfl⟩)) hS (fun k h => by simp [wr0] at h) (fun r_4 H locs hp_5 hG hS o_6 => ?_)
    rcases hp_5 with ⟨rfl, hc_355, hc_356⟩ | ⟨rfl, hc_357⟩
    · skip
      refine lv_if_eq (tgt := 36) hx hb dX10_rain_21 (by decide) (fun q => absurd q (by decide)) (fun _ => ?_)
      refine lv_iload_n hx hb dX10_rain_24 rfl (lv_at hl 3 rfl) ?_
      refine lv_i2l (v := a3.toInt64) hx hb dX10_rain_25 rfl ?_
      refine lv_lconst (v := 0) hx hb dX10_rain_26 (by decide) ?_
      refine lv_pc (pc2 := 27) rfl ?_
      refine lv_ldc2 hx hb hown (hts (.constantLong RX10 103 (10000)) (List.mem_of_getElem? (i := 6) rfl)) dX10_rain_27 ?_
      refine ty_calli ((W.runS (As := [.long a3.toInt64, .long 0, .long 10000]) (rest := []) ⟨hx, hb, hml, hown, hts⟩ (c_in l D t cI cL cC 0 0 a3.toInt64 0 10000 a3.toInt 0 10000 (q_i2l _) (by decide) (by decide) ) (va_cwS 3 hts gu_X10_rain_X10_in_85 rfl rfl rfl (by decide +kernel) ⟨Nat.le_of_ble_eq_true rfl, Nat.le_of_ble_eq_true rfl⟩) (tP_S hG hE) rfl rfl hl.1 rfl (lv_room (Nat.le_of_ble_eq_true rfl)) dX10_rain_30 ⟨Nat.le_of_ble_eq_true rfl, Nat.le_of_ble_eq_true rfl⟩)) hS (fun k h => by simp [wr0] at h) (fun r_7 H locs hp_8 hG hS o_9 => ?_)
      rcases hp_8 with ⟨rfl, hc_358, hc_359⟩ | ⟨rfl, hc_360⟩
      · skip
        refine lv_if_ne (tgt := 38) hx hb dX10_rain_33 (by decide) (fun _ => ?_) (fun q => absurd q (by decide))
        refine lv_aload_n hx hb dX10_rain_38 rfl (lv_at hl 0 rfl) ?_
        obtain ⟨r_10, r_12, r_14, r_16, r_18, r_20, r_22, r_24, r_26, r_28, r_30, r_32, r_34, r_36, r_38, r_40, r_42, r_44, r_46, r_48, r_50, v_52, v_53, v_54, v_55, v_56, r_57, v_59, r_60, at_62, h_11, h_13, h_15, h_17, h_19, h_21, h_23, h_25, h_27, h_29, h_31, h_33, h_35, h_37, h_39, h_41, h_43, h_45, h_47, h_49, h_51, h_58, h_61⟩ := fF_o40 hG k_a0
        refine va_get (D := D) (ci := 9) (v := .ref r_46) (C := RX10) (T := TX10) (N := 36) hx hb hts in10 hown hK (va_one at_62) 0 rfl rfl 24 (by decide) (hts (.fieldLink RX10 65 "RiverModelModel" "ahead" "[I") (List.mem_of_getElem? (i := 7) rfl)) (fun _ h9 => h9) rfl dX10_rain_39 ?_
        refine lv_bipush (v := 24) hx hb dX10_rain_42 (by decide) ?_
        refine lv_iload_n hx hb dX10_rain_44 rfl (lv_at hl 1 rfl) ?_
        refine lv_imul hx hb dX10_rain_45 ?_
        refine lv_topi (fun x_63 e_64 => ?_)
        have i_x_63 : x_63.toInt = 24 * a1.toInt := by rw [e_64]; exact (q_mul (by rw [show (24 : Int32).toInt = 24 by decide]; omega) (by rw [show (24 : Int32).toInt = 24 by decide]; omega)).trans (by rw [show (24 : Int32).toInt = 24 by decide])
        refine lv_pc (pc2 := 46) rfl ?_
        refine lv_iload_n hx hb dX10_rain_46 rfl (lv_at hl 2 rfl) ?_
        refine lv_iadd hx hb dX10_rain_47 ?_
        refine lv_topi (fun x_65 e_66 => ?_)
        have i_x_65 : x_65.toInt = x_63.toInt + a2.toInt := by rw [e_66]; exact (q_add (by omega) (by omega)).trans (by rfl)
        obtain ⟨f_67, at_68, h_69⟩ := fF_o59 hG h_47
        have b_70 : vp_in x_65 96 := (q_in (by omega) (by omega))
        refine va_iald hx hb hK (va_one at_68) 0 0 rfl rfl b_70 dX10_rain_48 ?_
        refine lv_seti (y := 0) (h_69 _ (q_inlt b_70)) ?_
        refine lv_istore (lv' := [(4, .int 0), (0, .ref a0), (1, .int a1), (2, .int a2), (3, .int a3)]) hx hb dX10_rain_49 hl (by decide) rfl (fun ls hl => ?_)
        refine lv_aload_n hx hb dX10_rain_51 rfl (lv_at hl 1 rfl) ?_
        refine va_get (D := D) (ci := 9) (v := .ref r_46) (C := RX10) (T := TX10) (N := 36) hx hb hts in10 hown hK (va_one at_62) 0 rfl rfl 24 (by decide) (hts (.fieldLink RX10 65 "RiverModelModel" "ahead" "[I") (List.mem_of_getElem? (i := 7) rfl)) (fun _ h9 => h9) rfl dX10_rain_52 ?_
        refine lv_bipush (v := 24) hx hb dX10_rain_55 (by decide) ?_
        refine lv_iload_n hx hb dX10_rain_57 rfl (lv_at hl 2 rfl) ?_
        refine lv_pc (pc2 := 58) rfl ?_
        refine lv_imul hx hb dX10_rain_58 ?_
        refine lv_topi (fun x_71 e_72 => ?_)
        have i_x_71 : x_71.toInt = 24 * a1.toInt := by rw [e_72]; exact (q_mul (by rw [show (24 : Int32).toInt = 24 by decide]; omega) (by rw [show (24 : Int32).toInt = 24 by decide]; omega)).trans (by rw [show (24 : Int32).toInt = 24 by decide])
        refine lv_iload_n hx hb dX10_rain_59 rfl (lv_at hl 3 rfl) ?_
        refine lv_iadd hx hb dX10_rain_60 ?_
        refine lv_topi (fun x_73 e_74 => ?_)
        have i_x_73 : x_73.toInt = x_71.toInt + a2.toInt := by rw [e_74]; exact (q_add (by omega) (by omega)).trans (by rfl)
        refine lv_iload_n hx hb dX10_rain_61 rfl (lv_at hl 4 rfl) ?_
        have b_75 : vp_in x_73 96 := (q_in (by omega) (by omega))
        refine ty_iast (F2 := fT) hx hb hK hG hS 0 at_68 (by rw [h_47]; rfl) rfl b_75 True.intro (fun hG b _ h0 => by obtain ⟨e, g1, _⟩ := hG b h0; exact ⟨e, g1, True.intro⟩) dX10_rain_62 (fun H locs hG hS at_76 o_77 => ?_)
        have at_62 := va_at.keptK at_62 o_77 h_47 k_a0 rfl
        refine lv_iload hx hb dX10_rain_63 (lv_at hl 0 rfl) ?_
        exact ty_iret hx hb hr hlk hG hS (by first | exact Or.inl ⟨rfl, by omega⟩ | exact Or.inr ⟨rfl, by omega⟩ | exact Or.inr (Or.inl ⟨rfl, by omega⟩) | exact Or.inr (Or.inr ⟨rfl, by omega⟩) | exact ⟨rfl, by omega⟩ | omega | trivial | rfl | (exfalso; omega)) dX10_rain_65
      · skip
        refine lv_if_ne (tgt := 38) hx hb dX10_rain_33 (by decide) (fun q => absurd rfl q) (fun _ => ?_)
        refine lv_pc (pc2 := 36) rfl ?_
        refine lv_iconst (v := (-1)) hx hb dX10_rain_36 (by decide) ?_
        exact ty_iret hx hb hr hlk hG.toT hS (by first | exact Or.inl ⟨rfl, by omega⟩ | exact Or.inr ⟨rfl, by omega⟩ | exact Or.inr (Or.inl ⟨rfl, by omega⟩) | exact Or.inr (Or.inr ⟨rfl, by omega⟩) | exact ⟨rfl, by omega⟩ | omega | trivial | rfl | (exfalso; omega)) dX10_rain_37
    · skip
      refine lv_if_eq (tgt := 36) hx hb dX10_rain_21 (by decide) (fun _ => ?_) (fun q => absurd (by decide) q)
      refine lv_iconst (v := (-1)) hx hb dX10_rain_36 (by decide) ?_
      exact ty_iret hx hb hr hlk hG.toT hS (by first | exact Or.inl ⟨rfl, by omega⟩ | exact Or.inr ⟨rfl, by omega⟩ | exact Or.inr (Or.inl ⟨rfl, by omega⟩) | exact Or.inr (Or.inr ⟨rfl, by omega⟩) | exact ⟨rfl, by omega⟩ | omega | trivial | rfl | (exfalso; omega)) dX10_rain_37
  · skip
    refine lv_if_eq (tgt := 36) hx hb dX10_rain_9 (by decide) (fun _ => ?_) (fun q => absurd (by decide) q)
    refine lv_iconst (v := (-1)) hx hb dX10_rain_36 (by decide) ?_
    exact ty_iret hx hb hr hlk hG.toT hS (by first | exact Or.inl ⟨rfl, by omega⟩ | exact Or.inr ⟨rfl, by omega⟩ | exact Or.inr (Or.inl ⟨rfl, by omega⟩) | exact Or.inr (Or.inr ⟨rfl, by omega⟩) | exact ⟨rfl, by omega⟩ | omega | trivial | rfl | (exfalso; omega)) dX10_rain_37

def uX10_count : List Cond := .code yX10_count cX10_count 5 (some .int) :: ([.fieldLink RX10 89 "RiverModelModel" "length" "I", .fieldLink RX10 173 "RiverModelModel" "isBuilt" "Z", .methodLink RX10 245 yX10_ofKind, .instanceMethod yX10_ofKind, .selects RX10 yX10_ofKind yX10_ofKind, .initialized RX10, .fieldLink RX10 28 "RiverModelModel" "m" "[J", .fieldLink RX10 59 "RiverModelModel" "knobMany" "[I", .fieldLink RX10 180 "RiverModelModel" "keptMany" "I", .fieldLink RX10 38 "RiverModelModel" "gaugeKind" "[I", .fieldLink RX10 44 "RiverModelModel" "seen" "[I", .code yX10_ofKind cX10_ofKind 4 (some .int), .fieldLink RX10 163 "RiverModelModel" "items" "I"] ++ wsX100)
set_option maxRecDepth 20000 in
theorem gu_X10_count_X10_ofKind_245 : GoodIn uX10_count (wsV RX10 245 RX10 yX10_ofKind uX10_ofKind) := goodIn_r _ [3, 4, 5, 6, 12, 13, 14, 15, 16, 17, 18, 19, 20, 21, 22, 23, 24, 25, 26, 27, 28, 29, 30, 31, 32, 33, 34, 35, 36, 37, 38, 39, 40, 41, 42, 43, 44, 45, 46, 47, 48, 49] (by decide +kernel) (by decide +kernel)
set_option maxHeartbeats 4000000 in
set_option maxRecDepth 100000 in
theorem c_X10_count (l : Launch) (D : va_G) (t : Nat → Nat) (cI cL cC : ClassId) (a0 : Nat) (a1 : Int32) (k_a0 : t a0 = 40) : tM l yX10_count uX10_count 1 23 D (fF cI cL cC 0 0) (fF cI cL cC 0 0) t cI cL cC [.ref a0, .int a1] wr0 (pI (fun r => (r = (-1) ∧ (a1.toInt < 0 ∨ 8 < a1.toInt)) ∨ (r = 0 ∧ 0 ≤ a1.toInt ∧ a1.toInt ≤ 8))) := by
  refine tM.ofW (cc := cX10_count) (maxL := 5) (ret := (some .int)) (by decide) rfl (Nat.le_of_ble_eq_true rfl) ?_
  intro p e s m below meth c hx hb hr hml hown hts hlk H locs hG hK hE hS ls hl
  have hl : lv_has ls 5 [(0, .ref a0), (1, .int a1)] := hl
  have in10 : ∀ w ∈ wsX100, w ∈ uX10_count := fun w h => List.mem_cons_of_mem _ (List.mem_append_right _ h)
  refine lv_iconst (v := 0) hx hb dX10_count_0 (by decide) ?_
  refine lv_istore_n (lv' := [(2, .int 0), (0, .ref a0), (1, .int a1)]) hx hb dX10_count_1 rfl hl (by decide) rfl (fun ls hl => ?_)
  refine lv_iconst (v := 0) hx hb dX10_count_2 (by decide) ?_
  refine lv_istore_n (lv' := [(3, .int 0), (2, .int 0), (0, .ref a0), (1, .int a1)]) hx hb dX10_count_3 rfl hl (by decide) rfl (fun ls hl => ?_)
  refine lv_iconst (v := 0) hx hb dX10_count_4 (by decide) ?_
  refine lv_istore (lv' := [(4, .int 0), (3, .int 0), (2, .int 0), (0, .ref a0), (1, .int a1)]) hx hb dX10_count_5 hl (by decide) rfl (fun ls hl => ?_)
  refine lv_pc (pc2 := 7) rfl ?_
  refine lp_gen (fun WW hWW => ?_)
  have kx : ∀ (H1 : Heap) (locs1 : List Loc) (ls1 : Array Slot), tG D (fF cI cL cC 0 0) t H1 → tF t wr0 s.heap H1 locs1 → lv_has ls1 5 [(4, .int 384), (3, .int 0), (2, .int 0), (0, .ref a0), (1, .int a1)] → WW H1 locs1 (F0 m 39 ls1 []) := by
    intro H locs ls hG hS hl
    refine (hWW _ _ _).mpr ?_
    refine lv_iconst (v := 0) hx hb dX10_count_39 (by decide) ?_
    refine lv_pc (pc2 := 40) rfl ?_
    refine lv_istore (lv' := [(4, .int 0), (3, .int 0), (2, .int 0), (0, .ref a0), (1, .int a1)]) hx hb dX10_count_40 hl (by decide) rfl (fun ls hl => ?_)
    refine lv_pc (pc2 := 42) rfl ?_
    refine lp_gen (fun WW hWW => ?_)
    have kx : ∀ (H1 : Heap) (locs1 : List Loc) (ls1 : Array Slot), tG D (fF cI cL cC 0 0) t H1 → tF t wr0 s.heap H1 locs1 → lv_has ls1 5 [(4, .int 4), (3, .int 0), (2, .int 0), (0, .ref a0), (1, .int a1)] → WW H1 locs1 (F0 m 72 ls1 []) := by
      intro H locs ls hG hS hl
      refine (hWW _ _ _).mpr ?_
      refine lv_iload_n hx hb dX10_count_72 rfl (lv_at hl 4 rfl) ?_
      by_cases k_1 : a1.toInt = 0
      · refine lv_tableIn (tgt := 124) hx hb dX10_count_73 (by rw [k_1]; decide) (by rw [k_1]; decide) (by rw [k_1]; rfl) (by decide) ?_
        refine lv_aload_n hx hb dX10_count_124 rfl (lv_at hl 3 rfl) ?_
        obtain ⟨r_2, r_4, r_6, r_8, r_10, r_12, r_14, r_16, r_18, r_20, r_22, r_24, r_26, r_28, r_30, r_32, r_34, r_36, r_38, r_40, r_42, v_44, v_45, v_46, v_47, v_48, r_49, v_51, r_52, at_54, h_3, h_5, h_7, h_9, h_11, h_13, h_15, h_17, h_19, h_21, h_23, h_25, h_27, h_29, h_31, h_33, h_35, h_37, h_39, h_41, h_43, h_50, h_53⟩ := fF_o40 hG k_a0
        refine va_get (D := D) (ci := 9) (v := .int 0) (C := RX10) (T := TX10) (N := 36) hx hb hts in10 hown hK (va_one at_54) 0 rfl rfl 0 (by decide) (hts (.fieldLink RX10 89 "RiverModelModel" "length" "I") (List.mem_of_getElem? (i := 1) rfl)) (fun _ h9 => h9) rfl dX10_count_125 ?_
        exact ty_iret hx hb hr hlk hG hS (by first | exact Or.inl ⟨rfl, by omega⟩ | exact Or.inr ⟨rfl, by omega⟩ | exact Or.inr (Or.inl ⟨rfl, by omega⟩) | exact Or.inr (Or.inr ⟨rfl, by omega⟩) | exact ⟨rfl, by omega⟩ | omega | trivial | rfl | (exfalso; omega)) dX10_count_128
      by_cases k_55 : a1.toInt = 1
      · refine lv_tableIn (tgt := 129) hx hb dX10_count_73 (by rw [k_55]; decide) (by rw [k_55]; decide) (by rw [k_55]; rfl) (by decide) ?_
        refine lv_aload_n hx hb dX10_count_129 rfl (lv_at hl 3 rfl) ?_
        obtain ⟨r_56, r_58, r_60, r_62, r_64, r_66, r_68, r_70, r_72, r_74, r_76, r_78, r_80, r_82, r_84, r_86, r_88, r_90, r_92, r_94, r_96, v_98, v_99, v_100, v_101, v_102, r_103, v_105, r_106, at_108, h_57, h_59, h_61, h_63, h_65, h_67, h_69, h_71, h_73, h_75, h_77, h_79, h_81, h_83, h_85, h_87, h_89, h_91, h_93, h_95, h_97, h_104, h_107⟩ := fF_o40 hG k_a0
        refine va_get (D := D) (ci := 9) (v := .int 0) (C := RX10) (T := TX10) (N := 36) hx hb hts in10 hown hK (va_one at_108) 0 rfl rfl 2 (by decide) (hts (.fieldLink RX10 173 "RiverModelModel" "isBuilt" "Z") (List.mem_of_getElem? (i := 2) rfl)) (fun _ h9 => h9) rfl dX10_count_130 ?_
        refine lv_pc (pc2 := 133) rfl ?_
        refine lv_if_eq (tgt := 143) hx hb dX10_count_133 (by decide) (fun _ => ?_) (fun q => absurd (by decide) q)
        refine lv_iconst (v := 0) hx hb dX10_count_143 (by decide) ?_
        exact ty_iret hx hb hr hlk hG hS (by first | exact Or.inl ⟨rfl, by omega⟩ | exact Or.inr ⟨rfl, by omega⟩ | exact Or.inr (Or.inl ⟨rfl, by omega⟩) | exact Or.inr (Or.inr ⟨rfl, by omega⟩) | exact ⟨rfl, by omega⟩ | omega | trivial | rfl | (exfalso; omega)) dX10_count_144
      by_cases k_109 : a1.toInt = 2
      · refine lv_tableIn (tgt := 145) hx hb dX10_count_73 (by rw [k_109]; decide) (by rw [k_109]; decide) (by rw [k_109]; rfl) (by decide) ?_
        refine lv_aload_n hx hb dX10_count_145 rfl (lv_at hl 3 rfl) ?_
        refine lv_bipush (v := 115) hx hb dX10_count_146 (by decide) ?_
        obtain ⟨r_110, r_112, r_114, r_116, r_118, r_120, r_122, r_124, r_126, r_128, r_130, r_132, r_134, r_136, r_138, r_140, r_142, r_144, r_146, r_148, r_150, v_152, v_153, v_154, v_155, v_156, r_157, v_159, r_160, at_162, h_111, h_113, h_115, h_117, h_119, h_121, h_123, h_125, h_127, h_129, h_131, h_133, h_135, h_137, h_139, h_141, h_143, h_145, h_147, h_149, h_151, h_158, h_161⟩ := fF_o40 hG k_a0
        refine ty_calli ((W.runV (As := [.int 115]) (rest := []) ⟨hx, hb, hml, hown, hts⟩ (c_X10_ofKind l D t cI cL cC a0 115 k_a0) (cwV 1 hts gu_X10_count_X10_ofKind_245 rfl rfl rfl (by decide +kernel) ⟨Nat.le_of_ble_eq_true rfl, Nat.le_of_ble_eq_true rfl⟩) (tP_V hG hE at_162 rfl) rfl rfl hl.1 rfl (lv_room (Nat.le_of_ble_eq_true rfl)) dX10_count_148 ⟨Nat.le_of_ble_eq_true rfl, Nat.le_of_ble_eq_true rfl⟩)) hS (fun _ h => h) (fun r_163 H locs hp_164 hG hS o_165 => ?_)
        have at_162 := va_at.keptC at_162 o_165 k_a0 rfl
        rcases hp_164 with rfl
        exact ty_iret hx hb hr hlk hG hS (by first | exact Or.inl ⟨rfl, by omega⟩ | exact Or.inr ⟨rfl, by omega⟩ | exact Or.inr (Or.inl ⟨rfl, by omega⟩) | exact Or.inr (Or.inr ⟨rfl, by omega⟩) | exact ⟨rfl, by omega⟩ | omega | trivial | rfl | (exfalso; omega)) dX10_count_151
      by_cases k_166 : a1.toInt = 3
      · refine lv_tableIn (tgt := 152) hx hb dX10_count_73 (by rw [k_166]; decide) (by rw [k_166]; decide) (by rw [k_166]; rfl) (by decide) ?_
        refine lv_aload_n hx hb dX10_count_152 rfl (lv_at hl 3 rfl) ?_
        refine lv_pc (pc2 := 153) rfl ?_
        refine lv_bipush (v := 103) hx hb dX10_count_153 (by decide) ?_
        obtain ⟨r_167, r_169, r_171, r_173, r_175, r_177, r_179, r_181, r_183, r_185, r_187, r_189, r_191, r_193, r_195, r_197, r_199, r_201, r_203, r_205, r_207, v_209, v_210, v_211, v_212, v_213, r_214, v_216, r_217, at_219, h_168, h_170, h_172, h_174, h_176, h_178, h_180, h_182, h_184, h_186, h_188, h_190, h_192, h_194, h_196, h_198, h_200, h_202, h_204, h_206, h_208, h_215, h_218⟩ := fF_o40 hG k_a0
        refine ty_calli ((W.runV (As := [.int 103]) (rest := []) ⟨hx, hb, hml, hown, hts⟩ (c_X10_ofKind l D t cI cL cC a0 103 k_a0) (cwV 1 hts gu_X10_count_X10_ofKind_245 rfl rfl rfl (by decide +kernel) ⟨Nat.le_of_ble_eq_true rfl, Nat.le_of_ble_eq_true rfl⟩) (tP_V hG hE at_219 rfl) rfl rfl hl.1 rfl (lv_room (Nat.le_of_ble_eq_true rfl)) dX10_count_155 ⟨Nat.le_of_ble_eq_true rfl, Nat.le_of_ble_eq_true rfl⟩)) hS (fun _ h => h) (fun r_220 H locs hp_221 hG hS o_222 => ?_)
        have at_219 := va_at.keptC at_219 o_222 k_a0 rfl
        rcases hp_221 with rfl
        exact ty_iret hx hb hr hlk hG hS (by first | exact Or.inl ⟨rfl, by omega⟩ | exact Or.inr ⟨rfl, by omega⟩ | exact Or.inr (Or.inl ⟨rfl, by omega⟩) | exact Or.inr (Or.inr ⟨rfl, by omega⟩) | exact ⟨rfl, by omega⟩ | omega | trivial | rfl | (exfalso; omega)) dX10_count_158
      by_cases k_223 : a1.toInt = 4
      · refine lv_tableIn (tgt := 159) hx hb dX10_count_73 (by rw [k_223]; decide) (by rw [k_223]; decide) (by rw [k_223]; rfl) (by decide) ?_
        refine lv_aload_n hx hb dX10_count_159 rfl (lv_at hl 3 rfl) ?_
        obtain ⟨r_224, r_226, r_228, r_230, r_232, r_234, r_236, r_238, r_240, r_242, r_244, r_246, r_248, r_250, r_252, r_254, r_256, r_258, r_260, r_262, r_264, v_266, v_267, v_268, v_269, v_270, r_271, v_273, r_274, at_276, h_225, h_227, h_229, h_231, h_233, h_235, h_237, h_239, h_241, h_243, h_245, h_247, h_249, h_251, h_253, h_255, h_257, h_259, h_261, h_263, h_265, h_272, h_275⟩ := fF_o40 hG k_a0
        refine va_get (D := D) (ci := 9) (v := .ref r_236) (C := RX10) (T := TX10) (N := 36) hx hb hts in10 hown hK (va_one at_276) 0 rfl rfl 10 (by decide) (hts (.fieldLink RX10 28 "RiverModelModel" "m" "[J") (List.mem_of_getElem? (i := 7) rfl)) (fun _ h9 => h9) rfl dX10_count_160 ?_
        refine lv_sipush (v := 231) hx hb dX10_count_163 (by decide) ?_
        obtain ⟨f_277, at_278, h_279⟩ := fF_o47 hG h_237
        have b_280 : vp_in 231 280 := (q_in (by decide) (by decide))
        refine va_lald hx hb hK (va_one at_278) 0 1 rfl rfl b_280 dX10_count_166 ?_
        refine lv_setl (y := 0) (h_279 _ (q_inlt b_280)) ?_
        refine lv_l2i (v := 0) hx hb dX10_count_167 (by decide) ?_
        refine lv_pc (pc2 := 168) rfl ?_
        exact ty_iret hx hb hr hlk hG hS (by first | exact Or.inl ⟨rfl, by omega⟩ | exact Or.inr ⟨rfl, by omega⟩ | exact Or.inr (Or.inl ⟨rfl, by omega⟩) | exact Or.inr (Or.inr ⟨rfl, by omega⟩) | exact ⟨rfl, by omega⟩ | omega | trivial | rfl | (exfalso; omega)) dX10_count_168
      by_cases k_281 : a1.toInt = 5
      · refine lv_tableIn (tgt := 169) hx hb dX10_count_73 (by rw [k_281]; decide) (by rw [k_281]; decide) (by rw [k_281]; rfl) (by decide) ?_
        refine lv_aload_n hx hb dX10_count_169 rfl (lv_at hl 3 rfl) ?_
        obtain ⟨r_282, r_284, r_286, r_288, r_290, r_292, r_294, r_296, r_298, r_300, r_302, r_304, r_306, r_308, r_310, r_312, r_314, r_316, r_318, r_320, r_322, v_324, v_325, v_326, v_327, v_328, r_329, v_331, r_332, at_334, h_283, h_285, h_287, h_289, h_291, h_293, h_295, h_297, h_299, h_301, h_303, h_305, h_307, h_309, h_311, h_313, h_315, h_317, h_319, h_321, h_323, h_330, h_333⟩ := fF_o40 hG k_a0
        refine va_get (D := D) (ci := 9) (v := .ref r_314) (C := RX10) (T := TX10) (N := 36) hx hb hts in10 hown hK (va_one at_334) 0 rfl rfl 22 (by decide) (hts (.fieldLink RX10 59 "RiverModelModel" "knobMany" "[I") (List.mem_of_getElem? (i := 8) rfl)) (fun _ h9 => h9) rfl dX10_count_170 ?_
        refine lv_iconst (v := 0) hx hb dX10_count_173 (by decide) ?_
        obtain ⟨f_335, at_336, h_337⟩ := fF_o57 hG h_315
        have b_338 : vp_in 0 2 := (q_in (by decide) (by decide))
        refine va_iald hx hb hK (va_one at_336) 0 0 rfl rfl b_338 dX10_count_174 ?_
        refine lv_seti (y := 0) (h_337 _ (q_inlt b_338)) ?_
        refine lv_if_le (tgt := 182) hx hb dX10_count_175 (by decide) (fun _ => ?_) (fun q => absurd (by decide) q)
        refine lv_iconst (v := 0) hx hb dX10_count_182 (by decide) ?_
        refine lv_aload_n hx hb dX10_count_183 rfl (lv_at hl 3 rfl) ?_
        refine lv_pc (pc2 := 184) rfl ?_
        refine va_get (D := D) (ci := 9) (v := .ref r_314) (C := RX10) (T := TX10) (N := 36) hx hb hts in10 hown hK (va_one at_334) 0 rfl rfl 22 (by decide) (hts (.fieldLink RX10 59 "RiverModelModel" "knobMany" "[I") (List.mem_of_getElem? (i := 8) rfl)) (fun _ h9 => h9) rfl dX10_count_184 ?_
        refine lv_iconst (v := 1) hx hb dX10_count_187 (by decide) ?_
        have b_339 : vp_in 1 2 := (q_in (by decide) (by decide))
        refine va_iald hx hb hK (va_one at_336) 0 0 rfl rfl b_339 dX10_count_188 ?_
        refine lv_seti (y := 0) (h_337 _ (q_inlt b_339)) ?_
        refine lv_if_le (tgt := 196) hx hb dX10_count_189 (by decide) (fun _ => ?_) (fun q => absurd (by decide) q)
        refine lv_iconst (v := 0) hx hb dX10_count_196 (by decide) ?_
        refine lv_iadd hx hb dX10_count_197 ?_
        refine lv_seti (y := 0) (by decide) ?_
        exact ty_iret hx hb hr hlk hG hS (by first | exact Or.inl ⟨rfl, by omega⟩ | exact Or.inr ⟨rfl, by omega⟩ | exact Or.inr (Or.inl ⟨rfl, by omega⟩) | exact Or.inr (Or.inr ⟨rfl, by omega⟩) | exact ⟨rfl, by omega⟩ | omega | trivial | rfl | (exfalso; omega)) dX10_count_198
      by_cases k_340 : a1.toInt = 6
      · refine lv_tableIn (tgt := 199) hx hb dX10_count_73 (by rw [k_340]; decide) (by rw [k_340]; decide) (by rw [k_340]; rfl) (by decide) ?_
        refine lv_iload_n hx hb dX10_count_199 rfl (lv_at hl 1 rfl) ?_
        refine lv_pc (pc2 := 200) rfl ?_
        exact ty_iret hx hb hr hlk hG hS (by first | exact Or.inl ⟨rfl, by omega⟩ | exact Or.inr ⟨rfl, by omega⟩ | exact Or.inr (Or.inl ⟨rfl, by omega⟩) | exact Or.inr (Or.inr ⟨rfl, by omega⟩) | exact ⟨rfl, by omega⟩ | omega | trivial | rfl | (exfalso; omega)) dX10_count_200
      by_cases k_341 : a1.toInt = 7
      · refine lv_tableIn (tgt := 201) hx hb dX10_count_73 (by rw [k_341]; decide) (by rw [k_341]; decide) (by rw [k_341]; rfl) (by decide) ?_
        refine lv_iload_n hx hb dX10_count_201 rfl (lv_at hl 2 rfl) ?_
        exact ty_iret hx hb hr hlk hG hS (by first | exact Or.inl ⟨rfl, by omega⟩ | exact Or.inr ⟨rfl, by omega⟩ | exact Or.inr (Or.inl ⟨rfl, by omega⟩) | exact Or.inr (Or.inr ⟨rfl, by omega⟩) | exact ⟨rfl, by omega⟩ | omega | trivial | rfl | (exfalso; omega)) dX10_count_202
      by_cases k_342 : a1.toInt = 8
      · refine lv_tableIn (tgt := 203) hx hb dX10_count_73 (by rw [k_342]; decide) (by rw [k_342]; decide) (by rw [k_342]; rfl) (by decide) ?_
        refine lv_aload_n hx hb dX10_count_203 rfl (lv_at hl 3 rfl) ?_
        obtain ⟨r_343, r_345, r_347, r_349, r_351, r_353, r_355, r_357, r_359, r_361, r_363, r_365, r_367, r_369, r_371, r_373, r_375, r_377, r_379, r_381, r_383, v_385, v_386, v_387, v_388, v_389, r_390, v_392, r_393, at_395, h_344, h_346, h_348, h_350, h_352, h_354, h_356, h_358, h_360, h_362, h_364, h_366, h_368, h_370, h_372, h_374, h_376, h_378, h_380, h_382, h_384, h_391, h_394⟩ := fF_o40 hG k_a0
        refine va_get (D := D) (ci := 9) (v := .int 0) (C := RX10) (T := TX10) (N := 36) hx hb hts in10 hown hK (va_one at_395) 0 rfl rfl 13 (by decide) (hts (.fieldLink RX10 180 "RiverModelModel" "keptMany" "I") (List.mem_of_getElem? (i := 9) rfl)) (fun _ h9 => h9) rfl dX10_count_204 ?_
        exact ty_iret hx hb hr hlk hG hS (by first | exact Or.inl ⟨rfl, by omega⟩ | exact Or.inr ⟨rfl, by omega⟩ | exact Or.inr (Or.inl ⟨rfl, by omega⟩) | exact Or.inr (Or.inr ⟨rfl, by omega⟩) | exact ⟨rfl, by omega⟩ | omega | trivial | rfl | (exfalso; omega)) dX10_count_207
      refine lv_tableOut (tgt := 208) hx hb dX10_count_73 (by omega) (by decide) ?_
      refine lv_iconst (v := (-1)) hx hb dX10_count_208 (by decide) ?_
      exact ty_iret hx hb hr hlk hG hS (by first | exact Or.inl ⟨rfl, by omega⟩ | exact Or.inr ⟨rfl, by omega⟩ | exact Or.inr (Or.inl ⟨rfl, by omega⟩) | exact Or.inr (Or.inr ⟨rfl, by omega⟩) | exact ⟨rfl, by omega⟩ | omega | trivial | rfl | (exfalso; omega)) dX10_count_209
    have loop : ∀ (k i : Nat) (H1 : Heap) (locs1 : List Loc) (ls1 : Array Slot), i + k = 4 → tG D (fF cI cL cC 0 0) t H1 → tF t wr0 s.heap H1 locs1 → lv_has ls1 5 [(4, .int (nI i)), (3, .int 0), (2, .int 0), (0, .ref a0), (1, .int a1)] → WW H1 locs1 (F0 m 42 ls1 []) := by
      intro k
      induction k with
      | zero =>
        intro i H locs ls hi hG hS hl
        have hi : i = 4 := by omega
        subst hi
        have hl : lv_has ls 5 [(4, .int 4), (3, .int 0), (2, .int 0), (0, .ref a0), (1, .int a1)] := hl
        refine (hWW _ _ _).mpr ?_
        refine lv_pc (pc2 := 42) rfl ?_
        refine lv_iload hx hb dX10_count_42 (lv_at hl 0 rfl) ?_
        refine lv_iconst (v := 4) hx hb dX10_count_44 (by decide) ?_
        refine lv_icmp_ge (tgt := 72) hx hb dX10_count_45 (by decide) (fun _ => ?_) (fun q => absurd (by decide) q)
        exact (hWW _ _ _).mp (kx H locs ls hG hS (lv_sub hl [0, 1, 2, 3, 4] rfl))
      | succ k ih =>
        intro i H locs ls hi hG hS hl
        have hlt : i < 4 := by omega
        have i_c : (nI i).toInt = (i : Int) := nI_toInt (by omega)
        refine (hWW _ _ _).mpr ?_
        refine lv_iload hx hb dX10_count_42 (lv_at hl 0 rfl) ?_
        refine lv_iconst (v := 4) hx hb dX10_count_44 (by decide) ?_
        refine lv_icmp_ge (tgt := 72) hx hb dX10_count_45 (by decide) (fun c_396 => ?_) (fun c_396 => ?_)
        · skip
          have c_396 : 4 ≤ (nI i).toInt := q_le c_396
          exfalso; omega
        · skip
          have c_396 : (nI i).toInt < 4 := q_nle c_396
          refine lv_iload_n hx hb dX10_count_48 rfl (lv_at hl 1 rfl) ?_
          refine lv_aload_n hx hb dX10_count_49 rfl (lv_at hl 3 rfl) ?_
          refine lv_pc (pc2 := 50) rfl ?_
          obtain ⟨r_397, r_399, r_401, r_403, r_405, r_407, r_409, r_411, r_413, r_415, r_417, r_419, r_421, r_423, r_425, r_427, r_429, r_431, r_433, r_435, r_437, v_439, v_440, v_441, v_442, v_443, r_444, v_446, r_447, at_449, h_398, h_400, h_402, h_404, h_406, h_408, h_410, h_412, h_414, h_416, h_418, h_420, h_422, h_424, h_426, h_428, h_430, h_432, h_434, h_436, h_438, h_445, h_448⟩ := fF_o40 hG k_a0
          refine va_get (D := D) (ci := 9) (v := .ref r_415) (C := RX10) (T := TX10) (N := 36) hx hb hts in10 hown hK (va_one at_449) 0 rfl rfl 14 (by decide) (hts (.fieldLink RX10 38 "RiverModelModel" "gaugeKind" "[I") (List.mem_of_getElem? (i := 10) rfl)) (fun _ h9 => h9) rfl dX10_count_50 ?_
          refine lv_iload hx hb dX10_count_53 (lv_at hl 0 rfl) ?_
          obtain ⟨f_450, at_451, h_452⟩ := fF_o50 hG h_416
          have b_453 : vp_in (nI i) 4 := (q_in (by omega) (by omega))
          refine va_iald hx hb hK (va_one at_451) 0 0 rfl rfl b_453 dX10_count_55 ?_
          refine lv_seti (y := (-4)) (h_452 _ (q_inlt b_453)) ?_
          refine lv_if_lt (tgt := 63) hx hb dX10_count_56 (by decide) (fun _ => ?_) (fun q => absurd (by decide) q)
          refine lv_iconst (v := 0) hx hb dX10_count_63 (by decide) ?_
          refine lv_iadd hx hb dX10_count_64 ?_
          refine lv_seti (y := 0) (by decide) ?_
          refine lv_istore_n (lv' := [(3, .int 0), (4, .int (nI i)), (2, .int 0), (0, .ref a0), (1, .int a1)]) hx hb dX10_count_65 rfl hl (by decide) rfl (fun ls hl => ?_)
          refine lv_iinc (v := nI (i + 1)) (lv' := [(4, .int (nI (i + 1))), (3, .int 0), (2, .int 0), (0, .ref a0), (1, .int a1)]) hx hb dX10_count_66 hl (k := 1) rfl (by rw [nI_succ]; rfl) (by decide) rfl (fun ls hl => ?_)
          refine lv_pc (pc2 := 69) rfl ?_
          refine lv_goto (tgt := 42) hx hb dX10_count_69 (by decide) ?_
          exact (hWW _ _ _).mp (ih (i + 1) H locs ls (by omega) hG hS (lv_sub hl [0, 1, 2, 3, 4] rfl))
    exact loop 4 0 H locs ls (by omega) hG hS (lv_sub hl [0, 1, 2, 3, 4] rfl)
  have loop : ∀ (k i : Nat) (H1 : Heap) (locs1 : List Loc) (ls1 : Array Slot), i + k = 384 → tG D (fF cI cL cC 0 0) t H1 → tF t wr0 s.heap H1 locs1 → lv_has ls1 5 [(4, .int (nI i)), (3, .int 0), (2, .int 0), (0, .ref a0), (1, .int a1)] → WW H1 locs1 (F0 m 7 ls1 []) := by
    intro k
    induction k with
    | zero =>
      intro i H locs ls hi hG hS hl
      have hi : i = 384 := by omega
      subst hi
      have hl : lv_has ls 5 [(4, .int 384), (3, .int 0), (2, .int 0), (0, .ref a0), (1, .int a1)] := hl
      refine (hWW _ _ _).mpr ?_
      refine lv_iload hx hb dX10_count_7 (lv_at hl 0 rfl) ?_
      refine lv_sipush (v := 384) hx hb dX10_count_9 (by decide) ?_
      refine lv_icmp_ge (tgt := 39) hx hb dX10_count_12 (by decide) (fun _ => ?_) (fun q => absurd (by decide) q)
      exact (hWW _ _ _).mp (kx H locs ls hG hS (lv_sub hl [0, 1, 2, 3, 4] rfl))
    | succ k ih =>
      intro i H locs ls hi hG hS hl
      have hlt : i < 384 := by omega
      have i_c : (nI i).toInt = (i : Int) := nI_toInt (by omega)
      refine (hWW _ _ _).mpr ?_
      refine lv_iload hx hb dX10_count_7 (lv_at hl 0 rfl) ?_
      refine lv_sipush (v := 384) hx hb dX10_count_9 (by decide) ?_
      refine lv_icmp_ge (tgt := 39) hx hb dX10_count_12 (by decide) (fun c_454 => ?_) (fun c_454 => ?_)
      · skip
        have c_454 : 384 ≤ (nI i).toInt := q_le c_454
        exfalso; omega
      · skip
        have c_454 : (nI i).toInt < 384 := q_nle c_454
        refine lv_iload_n hx hb dX10_count_15 rfl (lv_at hl 2 rfl) ?_
        refine lv_pc (pc2 := 16) rfl ?_
        refine lv_aload_n hx hb dX10_count_16 rfl (lv_at hl 3 rfl) ?_
        obtain ⟨r_455, r_457, r_459, r_461, r_463, r_465, r_467, r_469, r_471, r_473, r_475, r_477, r_479, r_481, r_483, r_485, r_487, r_489, r_491, r_493, r_495, v_497, v_498, v_499, v_500, v_501, r_502, v_504, r_505, at_507, h_456, h_458, h_460, h_462, h_464, h_466, h_468, h_470, h_472, h_474, h_476, h_478, h_480, h_482, h_484, h_486, h_488, h_490, h_492, h_494, h_496, h_503, h_506⟩ := fF_o40 hG k_a0
        refine va_get (D := D) (ci := 9) (v := .ref r_477) (C := RX10) (T := TX10) (N := 36) hx hb hts in10 hown hK (va_one at_507) 0 rfl rfl 16 (by decide) (hts (.fieldLink RX10 44 "RiverModelModel" "seen" "[I") (List.mem_of_getElem? (i := 11) rfl)) (fun _ h9 => h9) rfl dX10_count_17 ?_
        refine lv_iload hx hb dX10_count_20 (lv_at hl 0 rfl) ?_
        obtain ⟨f_508, at_509, h_510⟩ := fF_o52 hG h_478
        have b_511 : vp_in (nI i) 384 := (q_in (by omega) (by omega))
        refine va_iald hx hb hK (va_one at_509) 0 0 rfl rfl b_511 dX10_count_22 ?_
        refine lv_seti (y := (-1)) (h_510 _ (q_inlt b_511)) ?_
        refine lv_if_lt (tgt := 30) hx hb dX10_count_23 (by decide) (fun _ => ?_) (fun q => absurd (by decide) q)
        refine lv_iconst (v := 0) hx hb dX10_count_30 (by decide) ?_
        refine lv_iadd hx hb dX10_count_31 ?_
        refine lv_seti (y := 0) (by decide) ?_
        refine lv_istore_n (lv' := [(2, .int 0), (4, .int (nI i)), (3, .int 0), (0, .ref a0), (1, .int a1)]) hx hb dX10_count_32 rfl hl (by decide) rfl (fun ls hl => ?_)
        refine lv_pc (pc2 := 33) rfl ?_
        refine lv_iinc (v := nI (i + 1)) (lv' := [(4, .int (nI (i + 1))), (2, .int 0), (3, .int 0), (0, .ref a0), (1, .int a1)]) hx hb dX10_count_33 hl (k := 1) rfl (by rw [nI_succ]; rfl) (by decide) rfl (fun ls hl => ?_)
        refine lv_goto (tgt := 7) hx hb dX10_count_36 (by decide) ?_
        exact (hWW _ _ _).mp (ih (i + 1) H locs ls (by omega) hG hS (lv_sub hl [0, 2, 1, 3, 4] rfl))
  exact loop 384 0 H locs ls (by omega) hG hS (lv_sub hl [0, 1, 2, 3, 4] rfl)

def uX10_write : List Cond := .code yX10_write cX10_write 5 (some .int) :: ([.constantLong RX10 83 (8), .methodLink RX10 85 yX10_in, .static yX10_in, .initialized RX10, .fieldLink RX10 89 "RiverModelModel" "length" "I", .fieldLink RX10 7 "RiverModelModel" "text" "[I", .constantLong RX10 93 (255), .code yX10_in cX10_in 6 (some .boolean)] ++ wsX100)
set_option maxRecDepth 20000 in
theorem gu_X10_write_X10_in_85 : GoodIn uX10_write (va_wsS RX10 85 yX10_in uX10_in) := goodIn_r _ [2, 3, 4, 8] (by decide +kernel) (by decide +kernel)
set_option maxHeartbeats 4000000 in
set_option maxRecDepth 100000 in
theorem c_X10_write (l : Launch) (D : va_G) (t : Nat → Nat) (cI cL cC : ClassId) (a0 : Nat) (a1 : Int32) (a2 : Int64) (uq_gR : ∀ b c : Nat, t b = 40 → t c = 40 → b = c) (k_a0 : t a0 = 40) : tM l yX10_write uX10_write 1 25 D (fF cI cL cC 0 0) fT t cI cL cC [.ref a0, .int a1, .long a2] wrM (pI (fun r => (r = -1 ∧ (a1.toInt < 1 ∨ 8 < a1.toInt)) ∨ (r = a1 ∧ 1 ≤ a1.toInt ∧ a1.toInt ≤ 8))) := by
  refine tM.ofW (cc := cX10_write) (maxL := 5) (ret := (some .int)) (by decide) rfl (Nat.le_of_ble_eq_true rfl) ?_
  intro p e s m below meth c hx hb hr hml hown hts hlk H locs hG hK hE hS ls hl
  have hl : lv_has ls 5 [(0, .ref a0), (1, .int a1), (2, .long a2)] := hl
  have in10 : ∀ w ∈ wsX100, w ∈ uX10_write := fun w h => List.mem_cons_of_mem _ (List.mem_append_right _ h)
  refine lv_iload_n hx hb dX10_write_0 rfl (lv_at hl 1 rfl) ?_
  refine lv_i2l (v := a1.toInt64) hx hb dX10_write_1 rfl ?_
  refine lv_lconst (v := 1) hx hb dX10_write_2 (by decide) ?_
  refine lv_ldc2 hx hb hown (hts (.constantLong RX10 83 (8)) (List.mem_of_getElem? (i := 1) rfl)) dX10_write_3 ?_
  refine ty_calli ((W.runS (As := [.long a1.toInt64, .long 1, .long 8]) (rest := []) ⟨hx, hb, hml, hown, hts⟩ (c_in l D t cI cL cC 0 0 a1.toInt64 1 8 a1.toInt 1 8 (q_i2l _) (by decide) (by decide) ) (va_cwS 3 hts gu_X10_write_X10_in_85 rfl rfl rfl (by decide +kernel) ⟨Nat.le_of_ble_eq_true rfl, Nat.le_of_ble_eq_true rfl⟩) (tP_S hG hE) rfl rfl hl.1 rfl (lv_room (Nat.le_of_ble_eq_true rfl)) dX10_write_6 ⟨Nat.le_of_ble_eq_true rfl, Nat.le_of_ble_eq_true rfl⟩)) hS (fun k h => by simp [wr0] at h) (fun r_1 H locs hp_2 hG hS o_3 => ?_)
  rcases hp_2 with ⟨rfl, hc_361, hc_362⟩ | ⟨rfl, hc_363⟩
  · skip
    refine lv_if_ne (tgt := 14) hx hb dX10_write_9 (by decide) (fun _ => ?_) (fun q => absurd q (by decide))
    refine lv_aload_n hx hb dX10_write_14 rfl (lv_at hl 0 rfl) ?_
    refine lv_pc (pc2 := 15) rfl ?_
    obtain ⟨r_4, r_6, r_8, r_10, r_12, r_14, r_16, r_18, r_20, r_22, r_24, r_26, r_28, r_30, r_32, r_34, r_36, r_38, r_40, r_42, r_44, v_46, v_47, v_48, v_49, v_50, r_51, v_53, r_54, at_56, h_5, h_7, h_9, h_11, h_13, h_15, h_17, h_19, h_21, h_23, h_25, h_27, h_29, h_31, h_33, h_35, h_37, h_39, h_41, h_43, h_45, h_52, h_55⟩ := fF_o40 hG k_a0
    refine va_get (D := D) (ci := 9) (v := .int 0) (C := RX10) (T := TX10) (N := 36) hx hb hts in10 hown hK (va_one at_56) 0 rfl rfl 0 (by decide) (hts (.fieldLink RX10 89 "RiverModelModel" "length" "I") (List.mem_of_getElem? (i := 5) rfl)) (fun _ h9 => h9) rfl dX10_write_15 ?_
    refine lv_iload_n hx hb dX10_write_18 rfl (lv_at hl 1 rfl) ?_
    refine lv_iadd hx hb dX10_write_19 ?_
    refine lv_topi (fun x_57 e_58 => ?_)
    have i_x_57 : x_57.toInt = 0 + a1.toInt := by rw [e_58]; exact (q_add (by rw [show (0 : Int32).toInt = 0 by decide]; omega) (by rw [show (0 : Int32).toInt = 0 by decide]; omega)).trans (by rw [show (0 : Int32).toInt = 0 by decide])
    refine lv_sipush (v := 400) hx hb dX10_write_20 (by decide) ?_
    refine lv_icmp_le (tgt := 29) hx hb dX10_write_23 (by decide) (fun c_59 => ?_) (fun c_59 => ?_)
    · skip
      have c_59 : x_57.toInt ≤ 400 := q_le c_59
      refine lv_iload_n hx hb dX10_write_29 rfl (lv_at hl 1 rfl) ?_
      refine lv_iconst (v := 1) hx hb dX10_write_30 (by decide) ?_
      refine lv_isub hx hb dX10_write_31 ?_
      refine lv_topi (fun x_60 e_61 => ?_)
      have i_x_60 : x_60.toInt = a1.toInt - 1 := by rw [e_61]; exact (q_sub (by rw [show (1 : Int32).toInt = 1 by decide]; omega) (by rw [show (1 : Int32).toInt = 1 by decide]; omega)).trans (by rw [show (1 : Int32).toInt = 1 by decide])
      refine lv_pc (pc2 := 32) rfl ?_
      refine lv_istore (lv' := [(4, .int x_60), (0, .ref a0), (1, .int a1), (2, .long a2)]) hx hb dX10_write_32 hl (by decide) rfl (fun ls hl => ?_)
      refine lv_pc (pc2 := 34) rfl ?_
      refine lp_gen (fun WW hWW => ?_)
      have loop : ∀ (j : Nat) (x L : Int32) (H1 : Heap) (locs1 : List Loc) (ls1 : Array Slot), x.toInt = (j : Int) - 1 → L.toInt = a1.toInt - (j : Int) → 0 ≤ L.toInt → tG D (fF cI cL cC 0 L) t H1 → tF t wrM s.heap H1 locs1 → lv_has ls1 5 [(4, .int x), (0, .ref a0), (1, .int a1), (2, .long a2)] → WW H1 locs1 (F0 m 34 ls1 []) := by
        intro j
        induction j with
        | zero =>
          intro x L H locs ls hj hL hL0 hG hS hl
          refine (hWW _ _ _).mpr ?_
          refine lv_iload hx hb dX10_write_34 (lv_at hl 0 rfl) ?_
          refine lv_if_lt (tgt := 76) hx hb dX10_write_36 (by decide) (fun c_62 => ?_) (fun c_62 => ?_)
          · skip
            have c_62 : x.toInt < 0 := q_lt c_62
            have hLa : L = a1 := Int32.toInt_inj.mp (by omega)
            subst hLa
            refine lv_aload_n hx hb dX10_write_76 rfl (lv_at hl 1 rfl) ?_
            obtain ⟨r_63, r_65, r_67, r_69, r_71, r_73, r_75, r_77, r_79, r_81, r_83, r_85, r_87, r_89, r_91, r_93, r_95, r_97, r_99, r_101, r_103, v_105, v_106, v_107, v_108, v_109, r_110, v_112, r_113, at_115, h_64, h_66, h_68, h_70, h_72, h_74, h_76, h_78, h_80, h_82, h_84, h_86, h_88, h_90, h_92, h_94, h_96, h_98, h_100, h_102, h_104, h_111, h_114⟩ := fF_o40 hG k_a0
            refine va_get (D := D) (ci := 9) (v := .int L) (C := RX10) (T := TX10) (N := 36) hx hb hts in10 hown hK (va_one at_115) 0 rfl rfl 0 (by decide) (hts (.fieldLink RX10 89 "RiverModelModel" "length" "I") (List.mem_of_getElem? (i := 5) rfl)) (fun _ h9 => h9) rfl dX10_write_77 ?_
            exact ty_iret hx hb hr hlk hG.toT hS (by first | exact Or.inl ⟨rfl, by omega⟩ | exact Or.inr ⟨rfl, by omega⟩ | (exfalso; omega)) dX10_write_80
          · skip
            have c_62 : 0 ≤ x.toInt := q_nlt c_62
            exfalso; omega
        | succ j ih =>
          intro x L H locs ls hj hL hL0 hG hS hl
          refine (hWW _ _ _).mpr ?_
          refine lv_iload hx hb dX10_write_34 (lv_at hl 0 rfl) ?_
          refine lv_if_lt (tgt := 76) hx hb dX10_write_36 (by decide) (fun c_116 => ?_) (fun c_116 => ?_)
          · skip
            have c_116 : x.toInt < 0 := q_lt c_116
            exfalso; omega
          · skip
            have c_116 : 0 ≤ x.toInt := q_nlt c_116
            refine lv_pc (pc2 := 39) rfl ?_
            refine lv_aload_n hx hb dX10_write_39 rfl (lv_at hl 1 rfl) ?_
            obtain ⟨r_117, r_119, r_121, r_123, r_125, r_127, r_129, r_131, r_133, r_135, r_137, r_139, r_141, r_143, r_145, r_147, r_149, r_151, r_153, r_155, r_157, v_159, v_160, v_161, v_162, v_163, r_164, v_166, r_167, at_169, h_118, h_120, h_122, h_124, h_126, h_128, h_130, h_132, h_134, h_136, h_138, h_140, h_142, h_144, h_146, h_148, h_150, h_152, h_154, h_156, h_158, h_165, h_168⟩ := fF_o40 hG k_a0
            refine va_get (D := D) (ci := 9) (v := .ref r_117) (C := RX10) (T := TX10) (N := 36) hx hb hts in10 hown hK (va_one at_169) 0 rfl rfl 1 (by decide) (hts (.fieldLink RX10 7 "RiverModelModel" "text" "[I") (List.mem_of_getElem? (i := 6) rfl)) (fun _ h9 => h9) rfl dX10_write_40 ?_
            refine lv_aload_n hx hb dX10_write_43 rfl (lv_at hl 1 rfl) ?_
            refine va_get (D := D) (ci := 9) (v := .int L) (C := RX10) (T := TX10) (N := 36) hx hb hts in10 hown hK (va_one at_169) 0 rfl rfl 0 (by decide) (hts (.fieldLink RX10 89 "RiverModelModel" "length" "I") (List.mem_of_getElem? (i := 5) rfl)) (fun _ h9 => h9) rfl dX10_write_44 ?_
            refine lv_lload_n hx hb dX10_write_47 rfl (lv_at hl 3 rfl) ?_
            refine lv_bipush (v := 8) hx hb dX10_write_48 (by decide) ?_
            refine lv_iload hx hb dX10_write_50 (lv_at hl 0 rfl) ?_
            refine lv_imul hx hb dX10_write_52 ?_
            refine lv_topi (fun x_170 e_171 => ?_)
            refine lv_pc (pc2 := 53) rfl ?_
            refine lv_lshr hx hb dX10_write_53 rfl ?_
            refine lv_topl (fun z_172 e_173 => ?_)
            refine lv_ldc2 hx hb hown (hts (.constantLong RX10 93 (255)) (List.mem_of_getElem? (i := 7) rfl)) dX10_write_54 ?_
            refine lv_land hx hb dX10_write_57 ?_
            refine lv_topl (fun z_174 e_175 => ?_)
            refine lv_l2i (v := z_174.toInt32) hx hb dX10_write_58 rfl ?_
            refine lv_topi (fun x_176 e_177 => ?_)
            obtain ⟨f_178, at_179⟩ := fF_o41 hG h_118
            have b_180 : vp_in L 400 := (q_in (by omega) (by omega))
            refine ty_iast (F2 := (fF cI cL cC 0 L)) hx hb hK hG hS 0 at_179 (by rw [h_118]; rfl) rfl b_180 (by rw [h_118]; exact ⟨_, rfl⟩) tFF dX10_write_59 (fun H locs hG hS at_181 o_182 => ?_)
            have at_169 := va_at.keptK at_169 o_182 h_118 k_a0 rfl
            refine lv_aload_n hx hb dX10_write_60 rfl (lv_at hl 1 rfl) ?_
            refine lv_dup hx hb dX10_write_61 rfl ?_
            refine va_get (D := D) (ci := 9) (v := .int L) (C := RX10) (T := TX10) (N := 36) hx hb hts in10 hown hK (va_one at_169) 0 rfl rfl 0 (by decide) (hts (.fieldLink RX10 89 "RiverModelModel" "length" "I") (List.mem_of_getElem? (i := 5) rfl)) (fun _ h9 => h9) rfl dX10_write_62 ?_
            refine lv_pc (pc2 := 65) rfl ?_
            refine lv_iconst (v := 1) hx hb dX10_write_65 (by decide) ?_
            refine lv_iadd hx hb dX10_write_66 ?_
            refine lv_topi (fun x_183 e_184 => ?_)
            have i_x_183 : x_183.toInt = L.toInt + 1 := by rw [e_184]; exact (q_add (by rw [show (1 : Int32).toInt = 1 by decide]; omega) (by rw [show (1 : Int32).toInt = 1 by decide]; omega)).trans (by rw [show (1 : Int32).toInt = 1 by decide])
            refine ty_put (D := D) (ci := 9) (v := .int x_183) (ty := .int) (C := RX10) (T := TX10) (N := 36) (F2 := (fF cI cL cC 0 x_183)) hx hb hts in10 tyX10 tyX10_ok nmX10 hown hK hG hS at_169 (by rw [k_a0]; rfl) rfl 0 (by decide) (hts (.fieldLink RX10 89 "RiverModelModel" "length" "I") (List.mem_of_getElem? (i := 5) rfl)) (fun _ h9 => h9) rfl (by decide +kernel) rfl rfl (Nat.le_of_ble_eq_true rfl) (by rw [k_a0]; exact ⟨r_117, r_119, r_121, r_123, r_125, r_127, r_129, r_131, r_133, r_135, r_137, r_139, r_141, r_143, r_145, r_147, r_149, r_151, r_153, r_155, r_157, v_159, v_160, v_161, v_162, v_163, r_164, v_166, r_167, rfl, h_118, h_120, h_122, h_124, h_126, h_128, h_130, h_132, h_134, h_136, h_138, h_140, h_142, h_144, h_146, h_148, h_150, h_152, h_154, h_156, h_158, h_165, h_168⟩) (fun hG b hb h0 => by obtain ⟨e, g1, g2⟩ := hG b h0; exact ⟨e, g1, fF_gR (fun h => hb (uq_gR b a0 h k_a0)) g2⟩) dX10_write_67 (fun H locs hG hS at_185 o_186 => ?_)
            have at_185 : va_at D vwCl (a0, .inr (9, [.int x_183, .ref r_117, .int 0, .int 0, .ref r_119, .ref r_121, .ref r_123, .ref r_125, .int 0, .ref r_127, .ref r_129, .ref r_131, .ref r_133, .int 0, .ref r_135, .ref r_137, .ref r_139, .int 0, .ref r_141, .ref r_143, .ref r_145, .ref r_147, .ref r_149, .ref r_151, .ref r_153, .ref r_155, .ref r_157, .int v_159, .int v_160, .int v_161, .int v_162, .int v_163, .ref r_164, .int 0, .int v_166, .ref r_167])) H := at_185
            obtain ⟨x_187, e_188⟩ : ∃ y : Int32, y = x + Int32.ofInt (-1) := ⟨_, rfl⟩
            have i_x_187 : x_187.toInt = x.toInt + (-1) := by rw [e_188, show Int32.ofInt (-1) = (-1) by decide]; exact (q_add (by rw [show ((-1) : Int32).toInt = (-1) by decide]; omega) (by rw [show ((-1) : Int32).toInt = (-1) by decide]; omega)).trans (by rw [show ((-1) : Int32).toInt = (-1) by decide])
            refine lv_iinc (v := x_187) (lv' := [(4, .int x_187), (0, .ref a0), (1, .int a1), (2, .long a2)]) hx hb dX10_write_70 hl (k := 0) rfl e_188.symm (by decide) rfl (fun ls hl => ?_)
            refine lv_goto (tgt := 34) hx hb dX10_write_73 (by decide) ?_
            exact (hWW _ _ _).mp (ih x_187 x_183 H locs ls (by omega) (by omega) (by omega) hG hS (lv_sub hl [0, 1, 2, 3] rfl))
      exact loop a1.toInt.toNat x_60 0 H locs ls (by omega) (by rw [show (0 : Int32).toInt = 0 by decide]; omega) (by decide) hG hS (lv_sub hl [0, 1, 2, 3] rfl)
    · skip
      have c_59 : 400 < x_57.toInt := q_nle c_59
      refine lv_bipush (v := (-3)) hx hb dX10_write_26 (by decide) ?_
      exact ty_iret hx hb hr hlk hG.toT hS (by first | exact Or.inl ⟨rfl, by omega⟩ | exact Or.inr ⟨rfl, by omega⟩ | (exfalso; omega)) dX10_write_28
  · skip
    refine lv_if_ne (tgt := 14) hx hb dX10_write_9 (by decide) (fun q => absurd rfl q) (fun _ => ?_)
    refine lv_pc (pc2 := 12) rfl ?_
    refine lv_iconst (v := (-1)) hx hb dX10_write_12 (by decide) ?_
    exact ty_iret hx hb hr hlk hG.toT hS (by first | exact Or.inl ⟨rfl, by omega⟩ | exact Or.inr ⟨rfl, by omega⟩ | (exfalso; omega)) dX10_write_13
