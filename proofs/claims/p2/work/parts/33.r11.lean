theorem dX10_take_0 : decode cX10_take 0 = .ok (.iload_n 1, 1) := by decide +kernel
theorem dX10_take_1 : decode cX10_take 1 = .ok (.ifCond .ge 5, 3) := by decide +kernel
theorem dX10_take_4 : decode cX10_take 4 = .ok (.iconst (-1), 1) := by decide +kernel
theorem dX10_take_5 : decode cX10_take 5 = .ok (.ireturn, 1) := by decide +kernel
theorem dX10_take_6 : decode cX10_take 6 = .ok (.aload_n 0, 1) := by decide +kernel
theorem dX10_take_7 : decode cX10_take 7 = .ok (.getfield 173, 3) := by decide +kernel
theorem dX10_take_10 : decode cX10_take 10 = .ok (.ifCond .ne 6, 3) := by decide +kernel
theorem dX10_take_13 : decode cX10_take 13 = .ok (.bipush (-2), 2) := by decide +kernel
theorem dX10_take_15 : decode cX10_take 15 = .ok (.ireturn, 1) := by decide +kernel
theorem dX10_take_16 : decode cX10_take 16 = .ok (.aload_n 0, 1) := by decide +kernel
theorem dX10_take_17 : decode cX10_take 17 = .ok (.iload_n 1, 1) := by decide +kernel
theorem dX10_take_18 : decode cX10_take 18 = .ok (.invokevirtual 286, 3) := by decide +kernel
theorem dX10_take_21 : decode cX10_take 21 = .ok (.iload_n 1, 1) := by decide +kernel
theorem dX10_take_22 : decode cX10_take 22 = .ok (.if_icmp .gt 6, 3) := by decide +kernel
theorem dX10_take_25 : decode cX10_take 25 = .ok (.bipush (-4), 2) := by decide +kernel
theorem dX10_take_27 : decode cX10_take 27 = .ok (.ireturn, 1) := by decide +kernel
theorem dX10_take_28 : decode cX10_take 28 = .ok (.aload_n 0, 1) := by decide +kernel
theorem dX10_take_29 : decode cX10_take 29 = .ok (.iconst 1, 1) := by decide +kernel
theorem dX10_take_30 : decode cX10_take 30 = .ok (.invokevirtual 190, 3) := by decide +kernel
theorem dX10_take_33 : decode cX10_take 33 = .ok (.iconst 0, 1) := by decide +kernel
theorem dX10_take_34 : decode cX10_take 34 = .ok (.ireturn, 1) := by decide +kernel
theorem dX10_weigh_0 : decode cX10_weigh 0 = .ok (.iload_n 1, 1) := by decide +kernel
theorem dX10_weigh_1 : decode cX10_weigh 1 = .ok (.i2l, 1) := by decide +kernel
theorem dX10_weigh_2 : decode cX10_weigh 2 = .ok (.lconst 0, 1) := by decide +kernel
theorem dX10_weigh_3 : decode cX10_weigh 3 = .ok (.ldc2_w 243, 3) := by decide +kernel
theorem dX10_weigh_6 : decode cX10_weigh 6 = .ok (.invokestatic 85, 3) := by decide +kernel
theorem dX10_weigh_9 : decode cX10_weigh 9 = .ok (.ifCond .eq 15, 3) := by decide +kernel
theorem dX10_weigh_12 : decode cX10_weigh 12 = .ok (.iload_n 2, 1) := by decide +kernel
theorem dX10_weigh_13 : decode cX10_weigh 13 = .ok (.i2l, 1) := by decide +kernel
theorem dX10_weigh_14 : decode cX10_weigh 14 = .ok (.lconst 0, 1) := by decide +kernel
theorem dX10_weigh_15 : decode cX10_weigh 15 = .ok (.ldc2_w 107, 3) := by decide +kernel
theorem dX10_weigh_18 : decode cX10_weigh 18 = .ok (.invokestatic 85, 3) := by decide +kernel
theorem dX10_weigh_21 : decode cX10_weigh 21 = .ok (.ifCond .ne 5, 3) := by decide +kernel
theorem dX10_weigh_24 : decode cX10_weigh 24 = .ok (.iconst (-1), 1) := by decide +kernel
theorem dX10_weigh_25 : decode cX10_weigh 25 = .ok (.ireturn, 1) := by decide +kernel
theorem dX10_weigh_26 : decode cX10_weigh 26 = .ok (.aload_n 0, 1) := by decide +kernel
theorem dX10_weigh_27 : decode cX10_weigh 27 = .ok (.getfield 62, 3) := by decide +kernel
theorem dX10_weigh_30 : decode cX10_weigh 30 = .ok (.iload_n 1, 1) := by decide +kernel
theorem dX10_weigh_31 : decode cX10_weigh 31 = .ok (.iaload, 1) := by decide +kernel
theorem dX10_weigh_32 : decode cX10_weigh 32 = .ok (.istore_n 3, 1) := by decide +kernel
theorem dX10_weigh_33 : decode cX10_weigh 33 = .ok (.aload_n 0, 1) := by decide +kernel
theorem dX10_weigh_34 : decode cX10_weigh 34 = .ok (.getfield 62, 3) := by decide +kernel
theorem dX10_weigh_37 : decode cX10_weigh 37 = .ok (.iload_n 1, 1) := by decide +kernel
theorem dX10_weigh_38 : decode cX10_weigh 38 = .ok (.iload_n 2, 1) := by decide +kernel
theorem dX10_weigh_39 : decode cX10_weigh 39 = .ok (.iastore, 1) := by decide +kernel
theorem dX10_weigh_40 : decode cX10_weigh 40 = .ok (.iload_n 3, 1) := by decide +kernel
theorem dX10_weigh_41 : decode cX10_weigh 41 = .ok (.ireturn, 1) := by decide +kernel
theorem dX10_rain_0 : decode cX10_rain 0 = .ok (.iload_n 1, 1) := by decide +kernel
theorem dX10_rain_1 : decode cX10_rain 1 = .ok (.i2l, 1) := by decide +kernel
theorem dX10_rain_2 : decode cX10_rain 2 = .ok (.lconst 0, 1) := by decide +kernel
theorem dX10_rain_3 : decode cX10_rain 3 = .ok (.ldc2_w 243, 3) := by decide +kernel
theorem dX10_rain_6 : decode cX10_rain 6 = .ok (.invokestatic 85, 3) := by decide +kernel
theorem dX10_rain_9 : decode cX10_rain 9 = .ok (.ifCond .eq 27, 3) := by decide +kernel
theorem dX10_rain_12 : decode cX10_rain 12 = .ok (.iload_n 2, 1) := by decide +kernel
theorem dX10_rain_13 : decode cX10_rain 13 = .ok (.i2l, 1) := by decide +kernel
theorem dX10_rain_14 : decode cX10_rain 14 = .ok (.lconst 0, 1) := by decide +kernel
theorem dX10_rain_15 : decode cX10_rain 15 = .ok (.ldc2_w 289, 3) := by decide +kernel
theorem dX10_rain_18 : decode cX10_rain 18 = .ok (.invokestatic 85, 3) := by decide +kernel
theorem dX10_rain_21 : decode cX10_rain 21 = .ok (.ifCond .eq 15, 3) := by decide +kernel
theorem dX10_rain_24 : decode cX10_rain 24 = .ok (.iload_n 3, 1) := by decide +kernel
theorem dX10_rain_25 : decode cX10_rain 25 = .ok (.i2l, 1) := by decide +kernel
theorem dX10_rain_26 : decode cX10_rain 26 = .ok (.lconst 0, 1) := by decide +kernel
theorem dX10_rain_27 : decode cX10_rain 27 = .ok (.ldc2_w 103, 3) := by decide +kernel
theorem dX10_rain_30 : decode cX10_rain 30 = .ok (.invokestatic 85, 3) := by decide +kernel
theorem dX10_rain_33 : decode cX10_rain 33 = .ok (.ifCond .ne 5, 3) := by decide +kernel
theorem dX10_rain_36 : decode cX10_rain 36 = .ok (.iconst (-1), 1) := by decide +kernel
theorem dX10_rain_37 : decode cX10_rain 37 = .ok (.ireturn, 1) := by decide +kernel
theorem dX10_rain_38 : decode cX10_rain 38 = .ok (.aload_n 0, 1) := by decide +kernel
theorem dX10_rain_39 : decode cX10_rain 39 = .ok (.getfield 65, 3) := by decide +kernel
theorem dX10_rain_42 : decode cX10_rain 42 = .ok (.bipush 24, 2) := by decide +kernel
theorem dX10_rain_44 : decode cX10_rain 44 = .ok (.iload_n 1, 1) := by decide +kernel
theorem dX10_rain_45 : decode cX10_rain 45 = .ok (.imul, 1) := by decide +kernel
theorem dX10_rain_46 : decode cX10_rain 46 = .ok (.iload_n 2, 1) := by decide +kernel
theorem dX10_rain_47 : decode cX10_rain 47 = .ok (.iadd, 1) := by decide +kernel
theorem dX10_rain_48 : decode cX10_rain 48 = .ok (.iaload, 1) := by decide +kernel
theorem dX10_rain_49 : decode cX10_rain 49 = .ok (.istore 4, 2) := by decide +kernel
theorem dX10_rain_51 : decode cX10_rain 51 = .ok (.aload_n 0, 1) := by decide +kernel
theorem dX10_rain_52 : decode cX10_rain 52 = .ok (.getfield 65, 3) := by decide +kernel
theorem dX10_rain_55 : decode cX10_rain 55 = .ok (.bipush 24, 2) := by decide +kernel
theorem dX10_rain_57 : decode cX10_rain 57 = .ok (.iload_n 1, 1) := by decide +kernel
theorem dX10_rain_58 : decode cX10_rain 58 = .ok (.imul, 1) := by decide +kernel
theorem dX10_rain_59 : decode cX10_rain 59 = .ok (.iload_n 2, 1) := by decide +kernel
theorem dX10_rain_60 : decode cX10_rain 60 = .ok (.iadd, 1) := by decide +kernel
theorem dX10_rain_61 : decode cX10_rain 61 = .ok (.iload_n 3, 1) := by decide +kernel
theorem dX10_rain_62 : decode cX10_rain 62 = .ok (.iastore, 1) := by decide +kernel
theorem dX10_rain_63 : decode cX10_rain 63 = .ok (.iload 4, 2) := by decide +kernel
theorem dX10_rain_65 : decode cX10_rain 65 = .ok (.ireturn, 1) := by decide +kernel
theorem dX10_peakBy_0 : decode cX10_peakBy 0 = .ok (.aload_n 0, 1) := by decide +kernel
theorem dX10_peakBy_1 : decode cX10_peakBy 1 = .ok (.invokevirtual 274, 3) := by decide +kernel
theorem dX10_peakBy_4 : decode cX10_peakBy 4 = .ok (.ldc2_w 236, 3) := by decide +kernel
theorem dX10_peakBy_7 : decode cX10_peakBy 7 = .ok (.lstore 4, 2) := by decide +kernel
theorem dX10_peakBy_9 : decode cX10_peakBy 9 = .ok (.iconst 0, 1) := by decide +kernel
theorem dX10_peakBy_10 : decode cX10_peakBy 10 = .ok (.istore 6, 2) := by decide +kernel
theorem dX10_peakBy_12 : decode cX10_peakBy 12 = .ok (.iload 6, 2) := by decide +kernel
theorem dX10_peakBy_14 : decode cX10_peakBy 14 = .ok (.iload_n 2, 1) := by decide +kernel
theorem dX10_peakBy_15 : decode cX10_peakBy 15 = .ok (.if_icmp .ge 91, 3) := by decide +kernel
theorem dX10_peakBy_18 : decode cX10_peakBy 18 = .ok (.aload_n 0, 1) := by decide +kernel
theorem dX10_peakBy_19 : decode cX10_peakBy 19 = .ok (.getfield 28, 3) := by decide +kernel
theorem dX10_peakBy_22 : decode cX10_peakBy 22 = .ok (.sipush 231, 3) := by decide +kernel
theorem dX10_peakBy_25 : decode cX10_peakBy 25 = .ok (.laload, 1) := by decide +kernel
theorem dX10_peakBy_26 : decode cX10_peakBy 26 = .ok (.l2i, 1) := by decide +kernel
theorem dX10_peakBy_27 : decode cX10_peakBy 27 = .ok (.istore 7, 2) := by decide +kernel
theorem dX10_peakBy_29 : decode cX10_peakBy 29 = .ok (.iload_n 3, 1) := by decide +kernel
theorem dX10_peakBy_30 : decode cX10_peakBy 30 = .ok (.ifCond .ge 15, 3) := by decide +kernel
theorem dX10_peakBy_33 : decode cX10_peakBy 33 = .ok (.aload_n 0, 1) := by decide +kernel
theorem dX10_peakBy_34 : decode cX10_peakBy 34 = .ok (.getfield 25, 3) := by decide +kernel
theorem dX10_peakBy_37 : decode cX10_peakBy 37 = .ok (.iconst 2, 1) := by decide +kernel
theorem dX10_peakBy_38 : decode cX10_peakBy 38 = .ok (.iload 7, 2) := by decide +kernel
theorem dX10_peakBy_40 : decode cX10_peakBy 40 = .ok (.imul, 1) := by decide +kernel
theorem dX10_peakBy_41 : decode cX10_peakBy 41 = .ok (.iaload, 1) := by decide +kernel
theorem dX10_peakBy_42 : decode cX10_peakBy 42 = .ok (.goto 15, 3) := by decide +kernel
theorem dX10_peakBy_45 : decode cX10_peakBy 45 = .ok (.aload_n 0, 1) := by decide +kernel
theorem dX10_peakBy_46 : decode cX10_peakBy 46 = .ok (.getfield 65, 3) := by decide +kernel
theorem dX10_peakBy_49 : decode cX10_peakBy 49 = .ok (.bipush 24, 2) := by decide +kernel
theorem dX10_peakBy_51 : decode cX10_peakBy 51 = .ok (.iload_n 3, 1) := by decide +kernel
theorem dX10_peakBy_52 : decode cX10_peakBy 52 = .ok (.imul, 1) := by decide +kernel
theorem dX10_peakBy_53 : decode cX10_peakBy 53 = .ok (.iload 6, 2) := by decide +kernel
theorem dX10_peakBy_55 : decode cX10_peakBy 55 = .ok (.iadd, 1) := by decide +kernel
theorem dX10_peakBy_56 : decode cX10_peakBy 56 = .ok (.iaload, 1) := by decide +kernel
theorem dX10_peakBy_57 : decode cX10_peakBy 57 = .ok (.istore 8, 2) := by decide +kernel
theorem dX10_peakBy_59 : decode cX10_peakBy 59 = .ok (.aload_n 0, 1) := by decide +kernel
theorem dX10_peakBy_60 : decode cX10_peakBy 60 = .ok (.iconst 0, 1) := by decide +kernel
theorem dX10_peakBy_61 : decode cX10_peakBy 61 = .ok (.iload 8, 2) := by decide +kernel
theorem dX10_peakBy_63 : decode cX10_peakBy 63 = .ok (.aload_n 0, 1) := by decide +kernel
theorem dX10_peakBy_64 : decode cX10_peakBy 64 = .ok (.getfield 25, 3) := by decide +kernel
theorem dX10_peakBy_67 : decode cX10_peakBy 67 = .ok (.iconst 2, 1) := by decide +kernel
theorem dX10_peakBy_68 : decode cX10_peakBy 68 = .ok (.iload 7, 2) := by decide +kernel
theorem dX10_peakBy_70 : decode cX10_peakBy 70 = .ok (.imul, 1) := by decide +kernel
theorem dX10_peakBy_71 : decode cX10_peakBy 71 = .ok (.iconst 1, 1) := by decide +kernel
theorem dX10_peakBy_72 : decode cX10_peakBy 72 = .ok (.iadd, 1) := by decide +kernel
theorem dX10_peakBy_73 : decode cX10_peakBy 73 = .ok (.iaload, 1) := by decide +kernel
theorem dX10_peakBy_74 : decode cX10_peakBy 74 = .ok (.invokevirtual 225, 3) := by decide +kernel
theorem dX10_peakBy_77 : decode cX10_peakBy 77 = .ok (.aload_n 0, 1) := by decide +kernel
theorem dX10_peakBy_78 : decode cX10_peakBy 78 = .ok (.iload_n 1, 1) := by decide +kernel
theorem dX10_peakBy_79 : decode cX10_peakBy 79 = .ok (.invokevirtual 251, 3) := by decide +kernel
theorem dX10_peakBy_82 : decode cX10_peakBy 82 = .ok (.lload 4, 2) := by decide +kernel
theorem dX10_peakBy_84 : decode cX10_peakBy 84 = .ok (.lcmp, 1) := by decide +kernel
theorem dX10_peakBy_85 : decode cX10_peakBy 85 = .ok (.ifCond .le 11, 3) := by decide +kernel
theorem dX10_peakBy_88 : decode cX10_peakBy 88 = .ok (.aload_n 0, 1) := by decide +kernel
theorem dX10_peakBy_89 : decode cX10_peakBy 89 = .ok (.iload_n 1, 1) := by decide +kernel
theorem dX10_peakBy_90 : decode cX10_peakBy 90 = .ok (.invokevirtual 251, 3) := by decide +kernel
theorem dX10_peakBy_93 : decode cX10_peakBy 93 = .ok (.goto 5, 3) := by decide +kernel
theorem dX10_peakBy_96 : decode cX10_peakBy 96 = .ok (.lload 4, 2) := by decide +kernel
theorem dX10_peakBy_98 : decode cX10_peakBy 98 = .ok (.lstore 4, 2) := by decide +kernel
theorem dX10_peakBy_100 : decode cX10_peakBy 100 = .ok (.iinc 6 1, 3) := by decide +kernel
theorem dX10_peakBy_103 : decode cX10_peakBy 103 = .ok (.goto (-91), 3) := by decide +kernel
theorem dX10_peakBy_106 : decode cX10_peakBy 106 = .ok (.aload_n 0, 1) := by decide +kernel
theorem dX10_peakBy_107 : decode cX10_peakBy 107 = .ok (.invokevirtual 277, 3) := by decide +kernel
theorem dX10_peakBy_110 : decode cX10_peakBy 110 = .ok (.lload 4, 2) := by decide +kernel
theorem dX10_peakBy_112 : decode cX10_peakBy 112 = .ok (.lreturn, 1) := by decide +kernel
theorem dX10_canSee_0 : decode cX10_canSee 0 = .ok (.aload_n 0, 1) := by decide +kernel
theorem dX10_canSee_1 : decode cX10_canSee 1 = .ok (.iload_n 1, 1) := by decide +kernel
theorem dX10_canSee_2 : decode cX10_canSee 2 = .ok (.invokevirtual 248, 3) := by decide +kernel
theorem dX10_canSee_5 : decode cX10_canSee 5 = .ok (.ifCond .eq 25, 3) := by decide +kernel
theorem dX10_canSee_8 : decode cX10_canSee 8 = .ok (.aload_n 0, 1) := by decide +kernel
theorem dX10_canSee_9 : decode cX10_canSee 9 = .ok (.getfield 28, 3) := by decide +kernel
theorem dX10_canSee_12 : decode cX10_canSee 12 = .ok (.sipush 231, 3) := by decide +kernel
theorem dX10_canSee_15 : decode cX10_canSee 15 = .ok (.laload, 1) := by decide +kernel
theorem dX10_canSee_16 : decode cX10_canSee 16 = .ok (.iload_n 2, 1) := by decide +kernel
theorem dX10_canSee_17 : decode cX10_canSee 17 = .ok (.i2l, 1) := by decide +kernel
theorem dX10_canSee_18 : decode cX10_canSee 18 = .ok (.ladd, 1) := by decide +kernel
theorem dX10_canSee_19 : decode cX10_canSee 19 = .ok (.ldc2_w 229, 3) := by decide +kernel
theorem dX10_canSee_22 : decode cX10_canSee 22 = .ok (.lcmp, 1) := by decide +kernel
theorem dX10_canSee_23 : decode cX10_canSee 23 = .ok (.ifCond .gt 7, 3) := by decide +kernel
theorem dX10_canSee_26 : decode cX10_canSee 26 = .ok (.iconst 1, 1) := by decide +kernel
theorem dX10_canSee_27 : decode cX10_canSee 27 = .ok (.goto 4, 3) := by decide +kernel
theorem dX10_canSee_30 : decode cX10_canSee 30 = .ok (.iconst 0, 1) := by decide +kernel
theorem dX10_canSee_31 : decode cX10_canSee 31 = .ok (.ireturn, 1) := by decide +kernel
theorem dX10_chanceOf_0 : decode cX10_chanceOf 0 = .ok (.iconst 0, 1) := by decide +kernel
theorem dX10_chanceOf_1 : decode cX10_chanceOf 1 = .ok (.istore 5, 2) := by decide +kernel
theorem dX10_chanceOf_3 : decode cX10_chanceOf 3 = .ok (.iconst 0, 1) := by decide +kernel
theorem dX10_chanceOf_4 : decode cX10_chanceOf 4 = .ok (.istore 6, 2) := by decide +kernel
theorem dX10_chanceOf_6 : decode cX10_chanceOf 6 = .ok (.iload 6, 2) := by decide +kernel
theorem dX10_chanceOf_8 : decode cX10_chanceOf 8 = .ok (.iconst 4, 1) := by decide +kernel
theorem dX10_chanceOf_9 : decode cX10_chanceOf 9 = .ok (.if_icmp .ge 48, 3) := by decide +kernel
theorem dX10_chanceOf_12 : decode cX10_chanceOf 12 = .ok (.iload 5, 2) := by decide +kernel
theorem dX10_chanceOf_14 : decode cX10_chanceOf 14 = .ok (.aload_n 0, 1) := by decide +kernel
theorem dX10_chanceOf_15 : decode cX10_chanceOf 15 = .ok (.getfield 62, 3) := by decide +kernel
theorem dX10_chanceOf_18 : decode cX10_chanceOf 18 = .ok (.iload 6, 2) := by decide +kernel
theorem dX10_chanceOf_20 : decode cX10_chanceOf 20 = .ok (.iaload, 1) := by decide +kernel
theorem dX10_chanceOf_21 : decode cX10_chanceOf 21 = .ok (.ifCond .le 26, 3) := by decide +kernel
theorem dX10_chanceOf_24 : decode cX10_chanceOf 24 = .ok (.aload_n 0, 1) := by decide +kernel
theorem dX10_chanceOf_25 : decode cX10_chanceOf 25 = .ok (.iload_n 1, 1) := by decide +kernel
theorem dX10_chanceOf_26 : decode cX10_chanceOf 26 = .ok (.iload_n 2, 1) := by decide +kernel
theorem dX10_chanceOf_27 : decode cX10_chanceOf 27 = .ok (.iload 6, 2) := by decide +kernel
theorem dX10_chanceOf_29 : decode cX10_chanceOf 29 = .ok (.invokevirtual 291, 3) := by decide +kernel
theorem dX10_chanceOf_32 : decode cX10_chanceOf 32 = .ok (.lload_n 3, 1) := by decide +kernel
theorem dX10_chanceOf_33 : decode cX10_chanceOf 33 = .ok (.lcmp, 1) := by decide +kernel
theorem dX10_chanceOf_34 : decode cX10_chanceOf 34 = .ok (.ifCond .le 13, 3) := by decide +kernel
theorem dX10_chanceOf_37 : decode cX10_chanceOf 37 = .ok (.aload_n 0, 1) := by decide +kernel
theorem dX10_chanceOf_38 : decode cX10_chanceOf 38 = .ok (.getfield 62, 3) := by decide +kernel
theorem dX10_chanceOf_41 : decode cX10_chanceOf 41 = .ok (.iload 6, 2) := by decide +kernel
theorem dX10_chanceOf_43 : decode cX10_chanceOf 43 = .ok (.iaload, 1) := by decide +kernel
theorem dX10_chanceOf_44 : decode cX10_chanceOf 44 = .ok (.goto 4, 3) := by decide +kernel
theorem dX10_chanceOf_47 : decode cX10_chanceOf 47 = .ok (.iconst 0, 1) := by decide +kernel
theorem dX10_chanceOf_48 : decode cX10_chanceOf 48 = .ok (.iadd, 1) := by decide +kernel
theorem dX10_chanceOf_49 : decode cX10_chanceOf 49 = .ok (.istore 5, 2) := by decide +kernel
theorem dX10_chanceOf_51 : decode cX10_chanceOf 51 = .ok (.iinc 6 1, 3) := by decide +kernel
theorem dX10_chanceOf_54 : decode cX10_chanceOf 54 = .ok (.goto (-48), 3) := by decide +kernel
theorem dX10_chanceOf_57 : decode cX10_chanceOf 57 = .ok (.iload 5, 2) := by decide +kernel
theorem dX10_chanceOf_59 : decode cX10_chanceOf 59 = .ok (.ireturn, 1) := by decide +kernel
theorem dX10_chance_0 : decode cX10_chance 0 = .ok (.iload_n 1, 1) := by decide +kernel
theorem dX10_chance_1 : decode cX10_chance 1 = .ok (.i2l, 1) := by decide +kernel
theorem dX10_chance_2 : decode cX10_chance 2 = .ok (.lconst 0, 1) := by decide +kernel
theorem dX10_chance_3 : decode cX10_chance 3 = .ok (.ldc2_w 243, 3) := by decide +kernel
theorem dX10_chance_6 : decode cX10_chance 6 = .ok (.invokestatic 85, 3) := by decide +kernel
theorem dX10_chance_9 : decode cX10_chance 9 = .ok (.ifCond .eq 15, 3) := by decide +kernel
theorem dX10_chance_12 : decode cX10_chance 12 = .ok (.iload_n 2, 1) := by decide +kernel
theorem dX10_chance_13 : decode cX10_chance 13 = .ok (.i2l, 1) := by decide +kernel
theorem dX10_chance_14 : decode cX10_chance 14 = .ok (.lconst 1, 1) := by decide +kernel
theorem dX10_chance_15 : decode cX10_chance 15 = .ok (.ldc2_w 295, 3) := by decide +kernel
theorem dX10_chance_18 : decode cX10_chance 18 = .ok (.invokestatic 85, 3) := by decide +kernel
theorem dX10_chance_21 : decode cX10_chance 21 = .ok (.ifCond .ne 5, 3) := by decide +kernel
theorem dX10_chance_24 : decode cX10_chance 24 = .ok (.iconst (-1), 1) := by decide +kernel
theorem dX10_chance_25 : decode cX10_chance 25 = .ok (.ireturn, 1) := by decide +kernel
theorem dX10_chance_26 : decode cX10_chance 26 = .ok (.aload_n 0, 1) := by decide +kernel
theorem dX10_chance_27 : decode cX10_chance 27 = .ok (.iload_n 1, 1) := by decide +kernel
theorem dX10_chance_28 : decode cX10_chance 28 = .ok (.iload_n 2, 1) := by decide +kernel
theorem dX10_chance_29 : decode cX10_chance 29 = .ok (.invokevirtual 297, 3) := by decide +kernel
theorem dX10_chance_32 : decode cX10_chance 32 = .ok (.ifCond .eq 13, 3) := by decide +kernel
theorem dX10_chance_35 : decode cX10_chance 35 = .ok (.aload_n 0, 1) := by decide +kernel
theorem dX10_chance_36 : decode cX10_chance 36 = .ok (.iload_n 1, 1) := by decide +kernel
theorem dX10_chance_37 : decode cX10_chance 37 = .ok (.iload_n 2, 1) := by decide +kernel
theorem dX10_chance_38 : decode cX10_chance 38 = .ok (.lload_n 3, 1) := by decide +kernel
theorem dX10_chance_39 : decode cX10_chance 39 = .ok (.invokevirtual 301, 3) := by decide +kernel
theorem dX10_chance_42 : decode cX10_chance 42 = .ok (.goto 5, 3) := by decide +kernel
theorem dX10_chance_45 : decode cX10_chance 45 = .ok (.bipush (-2), 2) := by decide +kernel
theorem dX10_chance_47 : decode cX10_chance 47 = .ok (.ireturn, 1) := by decide +kernel
theorem dX10_warn_0 : decode cX10_warn 0 = .ok (.iload_n 1, 1) := by decide +kernel
theorem dX10_warn_1 : decode cX10_warn 1 = .ok (.i2l, 1) := by decide +kernel
theorem dX10_warn_2 : decode cX10_warn 2 = .ok (.lconst 0, 1) := by decide +kernel
theorem dX10_warn_3 : decode cX10_warn 3 = .ok (.ldc2_w 243, 3) := by decide +kernel
theorem dX10_warn_6 : decode cX10_warn 6 = .ok (.invokestatic 85, 3) := by decide +kernel
theorem dX10_warn_9 : decode cX10_warn 9 = .ok (.ifCond .eq 28, 3) := by decide +kernel
theorem dX10_warn_12 : decode cX10_warn 12 = .ok (.iload_n 2, 1) := by decide +kernel
theorem dX10_warn_13 : decode cX10_warn 13 = .ok (.i2l, 1) := by decide +kernel
theorem dX10_warn_14 : decode cX10_warn 14 = .ok (.lconst 1, 1) := by decide +kernel
theorem dX10_warn_15 : decode cX10_warn 15 = .ok (.ldc2_w 295, 3) := by decide +kernel
theorem dX10_warn_18 : decode cX10_warn 18 = .ok (.invokestatic 85, 3) := by decide +kernel
theorem dX10_warn_21 : decode cX10_warn 21 = .ok (.ifCond .eq 16, 3) := by decide +kernel
theorem dX10_warn_24 : decode cX10_warn 24 = .ok (.iload 5, 2) := by decide +kernel
theorem dX10_warn_26 : decode cX10_warn 26 = .ok (.i2l, 1) := by decide +kernel
theorem dX10_warn_27 : decode cX10_warn 27 = .ok (.lconst 0, 1) := by decide +kernel
theorem dX10_warn_28 : decode cX10_warn 28 = .ok (.ldc2_w 107, 3) := by decide +kernel
theorem dX10_warn_31 : decode cX10_warn 31 = .ok (.invokestatic 85, 3) := by decide +kernel
theorem dX10_warn_34 : decode cX10_warn 34 = .ok (.ifCond .ne 5, 3) := by decide +kernel
theorem dX10_warn_37 : decode cX10_warn 37 = .ok (.iconst (-1), 1) := by decide +kernel
theorem dX10_warn_38 : decode cX10_warn 38 = .ok (.ireturn, 1) := by decide +kernel
theorem dX10_warn_39 : decode cX10_warn 39 = .ok (.aload_n 0, 1) := by decide +kernel
theorem dX10_warn_40 : decode cX10_warn 40 = .ok (.iload_n 1, 1) := by decide +kernel
theorem dX10_warn_41 : decode cX10_warn 41 = .ok (.iload_n 2, 1) := by decide +kernel
theorem dX10_warn_42 : decode cX10_warn 42 = .ok (.invokevirtual 297, 3) := by decide +kernel
theorem dX10_warn_45 : decode cX10_warn 45 = .ok (.ifCond .ne 6, 3) := by decide +kernel
theorem dX10_warn_48 : decode cX10_warn 48 = .ok (.bipush (-2), 2) := by decide +kernel
theorem dX10_warn_50 : decode cX10_warn 50 = .ok (.ireturn, 1) := by decide +kernel
theorem dX10_warn_51 : decode cX10_warn 51 = .ok (.aload_n 0, 1) := by decide +kernel
theorem dX10_warn_52 : decode cX10_warn 52 = .ok (.getfield 62, 3) := by decide +kernel
theorem dX10_warn_55 : decode cX10_warn 55 = .ok (.iconst 0, 1) := by decide +kernel
theorem dX10_warn_56 : decode cX10_warn 56 = .ok (.iaload, 1) := by decide +kernel
theorem dX10_warn_57 : decode cX10_warn 57 = .ok (.aload_n 0, 1) := by decide +kernel
theorem dX10_warn_58 : decode cX10_warn 58 = .ok (.getfield 62, 3) := by decide +kernel
theorem dX10_warn_61 : decode cX10_warn 61 = .ok (.iconst 1, 1) := by decide +kernel
theorem dX10_warn_62 : decode cX10_warn 62 = .ok (.iaload, 1) := by decide +kernel
theorem dX10_warn_63 : decode cX10_warn 63 = .ok (.iadd, 1) := by decide +kernel
theorem dX10_warn_64 : decode cX10_warn 64 = .ok (.aload_n 0, 1) := by decide +kernel
theorem dX10_warn_65 : decode cX10_warn 65 = .ok (.getfield 62, 3) := by decide +kernel
theorem dX10_warn_68 : decode cX10_warn 68 = .ok (.iconst 2, 1) := by decide +kernel
theorem dX10_warn_69 : decode cX10_warn 69 = .ok (.iaload, 1) := by decide +kernel
theorem dX10_warn_70 : decode cX10_warn 70 = .ok (.iadd, 1) := by decide +kernel
theorem dX10_warn_71 : decode cX10_warn 71 = .ok (.aload_n 0, 1) := by decide +kernel
theorem dX10_warn_72 : decode cX10_warn 72 = .ok (.getfield 62, 3) := by decide +kernel
theorem dX10_warn_75 : decode cX10_warn 75 = .ok (.iconst 3, 1) := by decide +kernel
theorem dX10_warn_76 : decode cX10_warn 76 = .ok (.iaload, 1) := by decide +kernel
theorem dX10_warn_77 : decode cX10_warn 77 = .ok (.iadd, 1) := by decide +kernel
theorem dX10_warn_78 : decode cX10_warn 78 = .ok (.istore 6, 2) := by decide +kernel
theorem dX10_warn_80 : decode cX10_warn 80 = .ok (.aload_n 0, 1) := by decide +kernel
theorem dX10_warn_81 : decode cX10_warn 81 = .ok (.iload_n 1, 1) := by decide +kernel
theorem dX10_warn_82 : decode cX10_warn 82 = .ok (.iload_n 2, 1) := by decide +kernel
theorem dX10_warn_83 : decode cX10_warn 83 = .ok (.lload_n 3, 1) := by decide +kernel
theorem dX10_warn_84 : decode cX10_warn 84 = .ok (.invokevirtual 301, 3) := by decide +kernel
theorem dX10_warn_87 : decode cX10_warn 87 = .ok (.bipush 100, 2) := by decide +kernel
theorem dX10_warn_89 : decode cX10_warn 89 = .ok (.imul, 1) := by decide +kernel
theorem dX10_warn_90 : decode cX10_warn 90 = .ok (.iload 5, 2) := by decide +kernel
theorem dX10_warn_92 : decode cX10_warn 92 = .ok (.iload 6, 2) := by decide +kernel
theorem dX10_warn_94 : decode cX10_warn 94 = .ok (.imul, 1) := by decide +kernel
theorem dX10_warn_95 : decode cX10_warn 95 = .ok (.if_icmp .lt 7, 3) := by decide +kernel
theorem dX10_warn_98 : decode cX10_warn 98 = .ok (.iconst 1, 1) := by decide +kernel
theorem dX10_warn_99 : decode cX10_warn 99 = .ok (.goto 4, 3) := by decide +kernel
theorem dX10_warn_102 : decode cX10_warn 102 = .ok (.iconst 0, 1) := by decide +kernel
theorem dX10_warn_103 : decode cX10_warn 103 = .ok (.istore 7, 2) := by decide +kernel
theorem dX10_warn_105 : decode cX10_warn 105 = .ok (.aload_n 0, 1) := by decide +kernel
theorem dX10_warn_106 : decode cX10_warn 106 = .ok (.iload_n 1, 1) := by decide +kernel
theorem dX10_warn_107 : decode cX10_warn 107 = .ok (.iload_n 2, 1) := by decide +kernel
theorem dX10_warn_108 : decode cX10_warn 108 = .ok (.iconst (-1), 1) := by decide +kernel
theorem dX10_warn_109 : decode cX10_warn 109 = .ok (.invokevirtual 291, 3) := by decide +kernel
theorem dX10_warn_112 : decode cX10_warn 112 = .ok (.lload_n 3, 1) := by decide +kernel
theorem dX10_warn_113 : decode cX10_warn 113 = .ok (.lcmp, 1) := by decide +kernel
theorem dX10_warn_114 : decode cX10_warn 114 = .ok (.ifCond .le 7, 3) := by decide +kernel
theorem dX10_warn_117 : decode cX10_warn 117 = .ok (.iconst 1, 1) := by decide +kernel
theorem dX10_warn_118 : decode cX10_warn 118 = .ok (.goto 4, 3) := by decide +kernel
theorem dX10_warn_121 : decode cX10_warn 121 = .ok (.iconst 0, 1) := by decide +kernel
theorem dX10_warn_122 : decode cX10_warn 122 = .ok (.istore 8, 2) := by decide +kernel
theorem dX10_warn_124 : decode cX10_warn 124 = .ok (.aload_n 0, 1) := by decide +kernel
theorem dX10_warn_125 : decode cX10_warn 125 = .ok (.getfield 68, 3) := by decide +kernel
theorem dX10_warn_128 : decode cX10_warn 128 = .ok (.iload 7, 2) := by decide +kernel
theorem dX10_warn_130 : decode cX10_warn 130 = .ok (.ifCond .eq 16, 3) := by decide +kernel
theorem dX10_warn_133 : decode cX10_warn 133 = .ok (.iload 8, 2) := by decide +kernel
theorem dX10_warn_135 : decode cX10_warn 135 = .ok (.ifCond .eq 7, 3) := by decide +kernel
theorem dX10_warn_138 : decode cX10_warn 138 = .ok (.iconst 0, 1) := by decide +kernel
theorem dX10_warn_139 : decode cX10_warn 139 = .ok (.goto 17, 3) := by decide +kernel
theorem dX10_warn_142 : decode cX10_warn 142 = .ok (.iconst 1, 1) := by decide +kernel
theorem dX10_warn_143 : decode cX10_warn 143 = .ok (.goto 13, 3) := by decide +kernel
theorem dX10_warn_146 : decode cX10_warn 146 = .ok (.iload 8, 2) := by decide +kernel
theorem dX10_warn_148 : decode cX10_warn 148 = .ok (.ifCond .eq 7, 3) := by decide +kernel
theorem dX10_warn_151 : decode cX10_warn 151 = .ok (.iconst 2, 1) := by decide +kernel
theorem dX10_warn_152 : decode cX10_warn 152 = .ok (.goto 4, 3) := by decide +kernel
theorem dX10_warn_155 : decode cX10_warn 155 = .ok (.iconst 3, 1) := by decide +kernel
theorem dX10_warn_156 : decode cX10_warn 156 = .ok (.dup2, 1) := by decide +kernel
theorem dX10_warn_157 : decode cX10_warn 157 = .ok (.iaload, 1) := by decide +kernel
theorem dX10_warn_158 : decode cX10_warn 158 = .ok (.iconst 1, 1) := by decide +kernel
theorem dX10_warn_159 : decode cX10_warn 159 = .ok (.iadd, 1) := by decide +kernel
theorem dX10_warn_160 : decode cX10_warn 160 = .ok (.iastore, 1) := by decide +kernel
theorem dX10_warn_161 : decode cX10_warn 161 = .ok (.iload 7, 2) := by decide +kernel
theorem dX10_warn_163 : decode cX10_warn 163 = .ok (.ifCond .eq 7, 3) := by decide +kernel
theorem dX10_warn_166 : decode cX10_warn 166 = .ok (.iconst 1, 1) := by decide +kernel
theorem dX10_warn_167 : decode cX10_warn 167 = .ok (.goto 4, 3) := by decide +kernel
theorem dX10_warn_170 : decode cX10_warn 170 = .ok (.iconst 0, 1) := by decide +kernel
theorem dX10_warn_171 : decode cX10_warn 171 = .ok (.ireturn, 1) := by decide +kernel
def uX10_take : List Cond := .code yX10_take cX10_take 2 (some .int) :: ([.fieldLink RX10 173 "RiverModelModel" "isBuilt" "Z", .methodLink RX10 286 yX10_fitsTo, .instanceMethod yX10_fitsTo, .selects RX10 yX10_fitsTo yX10_fitsTo, .initialized RX10, .methodLink RX10 190 yX10_becomes, .instanceMethod yX10_becomes, .selects RX10 yX10_becomes yX10_becomes, .code yX10_fitsTo cX10_fitsTo 5 (some .int), .methodLink RX10 265 yX10_knobs, .instanceMethod yX10_knobs, .selects RX10 yX10_knobs yX10_knobs, .methodLink RX10 280 yX10_holds, .instanceMethod yX10_holds, .selects RX10 yX10_holds yX10_holds, .fieldLink RX10 283 "RiverModelModel" "point" "I", .code yX10_knobs cX10_knobs 2 (some .int), .fieldLink RX10 59 "RiverModelModel" "knobMany" "[I", .code yX10_holds cX10_holds 9 (some .boolean), .methodLink RX10 170 yX10_copies, .instanceMethod yX10_copies, .selects RX10 yX10_copies yX10_copies, .methodLink RX10 271 yX10_lastSeen, .instanceMethod yX10_lastSeen, .selects RX10 yX10_lastSeen yX10_lastSeen, .methodLink RX10 274 yX10_asides, .instanceMethod yX10_asides, .selects RX10 yX10_asides yX10_asides, .methodLink RX10 186 yX10_begins, .instanceMethod yX10_begins, .selects RX10 yX10_begins yX10_begins, .methodLink RX10 277 yX10_returns, .instanceMethod yX10_returns, .selects RX10 yX10_returns yX10_returns, .methodLink RX10 231 yX10_goes, .instanceMethod yX10_goes, .selects RX10 yX10_goes yX10_goes, .fieldLink RX10 44 "RiverModelModel" "seen" "[I", .methodLink RX10 251 yX10_reading, .instanceMethod yX10_reading, .selects RX10 yX10_reading yX10_reading, .fieldLink RX10 258 "RiverModelModel" "ends" "I", .methodLink RX10 85 yX10_in, .static yX10_in, .fieldLink RX10 163 "RiverModelModel" "items" "I", .fieldLink RX10 13 "RiverModelModel" "kind" "[I", .fieldLink RX10 22 "RiverModelModel" "number" "[I", .methodLink RX10 144 yX10_areWell, .static yX10_areWell, .fieldLink RX10 47 "RiverModelModel" "knobItem" "[I", .fieldLink RX10 50 "RiverModelModel" "knobAt" "[I", .methodLink RX10 268 yX10_knobValue, .instanceMethod yX10_knobValue, .selects RX10 yX10_knobValue yX10_knobValue, .code yX10_copies cX10_copies 4 none, .fieldLink RX10 16 "RiverModelModel" "first" "[I", .fieldLink RX10 19 "RiverModelModel" "second" "[I", .code yX10_lastSeen cX10_lastSeen 3 (some .int), .code yX10_asides cX10_asides 2 none, .fieldLink RX10 32 "RiverModelModel" "aside" "[J", .fieldLink RX10 28 "RiverModelModel" "m" "[J", .code yX10_begins cX10_begins 4 none, .methodLink RX10 183 yX10_startOf, .instanceMethod yX10_startOf, .selects RX10 yX10_startOf yX10_startOf, .methodLink RX10 208 yX10_isStore, .instanceMethod yX10_isStore, .selects RX10 yX10_isStore yX10_isStore, .fieldLink RX10 71 "RiverModelModel" "startB" "[I", .constantLong RX10 204 (224), .constantLong RX10 206 (227), .constantLong RX10 196 (5), .code yX10_startOf cX10_startOf 4 (some .int), .methodLink RX10 166 yX10_storeAt, .instanceMethod yX10_storeAt, .selects RX10 yX10_storeAt yX10_storeAt, .code yX10_storeAt cX10_storeAt 5 (some .int), .code yX10_isStore cX10_isStore 2 (some .boolean), .code yX10_in cX10_in 6 (some .boolean), .code yX10_returns cX10_returns 2 none, .code yX10_goes cX10_goes 4 none, .fieldLink RX10 25 "RiverModelModel" "weather" "[I", .methodLink RX10 225 yX10_passes, .instanceMethod yX10_passes, .selects RX10 yX10_passes yX10_passes, .code yX10_passes cX10_passes 12 none, .methodLink RX10 221 yX10_moves, .instanceMethod yX10_moves, .selects RX10 yX10_moves yX10_moves, .code yX10_moves cX10_moves 8 (some .long), .constantLong RX10 219 (10), .methodLink RX10 215 yX10_most, .instanceMethod yX10_most, .selects RX10 yX10_most yX10_most, .constantLong RX10 107 (100), .methodLink RX10 211 yX10_capacity, .instanceMethod yX10_capacity, .selects RX10 yX10_capacity yX10_capacity, .code yX10_most cX10_most 4 (some .long), .code yX10_capacity cX10_capacity 3 (some .long), .code yX10_reading cX10_reading 2 (some .long), .fieldLink RX10 38 "RiverModelModel" "gaugeKind" "[I", .fieldLink RX10 41 "RiverModelModel" "gaugeAt" "[I", .code yX10_areWell cX10_areWell 4 (some .boolean), .constantLong RX10 101 (1000), .constantLong RX10 103 (10000), .constantLong RX10 99 (1000000), .constantLong RX10 105 (12), .code yX10_knobValue cX10_knobValue 4 (some .int), .fieldLink RX10 53 "RiverModelModel" "knobFrom" "[I", .fieldLink RX10 56 "RiverModelModel" "knobStep" "[I", .code yX10_becomes cX10_becomes 3 none, .fieldLink RX10 177 "RiverModelModel" "isSwapped" "Z", .fieldLink RX10 180 "RiverModelModel" "keptMany" "I"] ++ wsX100)
set_option maxRecDepth 20000 in
theorem gu_X10_take_X10_fitsTo_286 : GoodIn uX10_take (wsV RX10 286 RX10 yX10_fitsTo uX10_fitsTo) := goodIn_r _ [2, 3, 4, 5, 9, 10, 11, 12, 5, 13, 14, 15, 16, 17, 18, 19, 20, 21, 22, 23, 24, 25, 26, 27, 28, 29, 30, 31, 32, 33, 34, 35, 36, 37, 38, 39, 40, 41, 42, 43, 44, 45, 46, 47, 48, 49, 50, 51, 52, 53, 54, 55, 56, 57, 58, 59, 60, 61, 62, 63, 64, 65, 66, 67, 68, 69, 70, 71, 72, 73, 74, 75, 76, 77, 78, 79, 80, 81, 82, 83, 84, 85, 86, 87, 88, 89, 90, 91, 92, 93, 94, 95, 96, 97, 98, 99, 100, 101, 102, 103, 104, 105, 106, 107, 108, 109, 110, 111, 115, 116, 117, 118, 119, 120, 121, 122, 123, 124, 125, 126, 127, 128, 129, 130, 131, 132, 133, 134, 135, 136, 137, 138, 139, 140, 141, 142, 143, 144, 145, 146, 147, 148, 149, 150] rfl (by decide +kernel)
set_option maxRecDepth 20000 in
theorem gu_X10_take_X10_becomes_190 : GoodIn uX10_take (wsV RX10 190 RX10 yX10_becomes uX10_becomes) := goodIn_r _ [6, 7, 8, 5, 112, 20, 21, 22, 5, 1, 113, 114, 29, 30, 31, 69, 63, 64, 65, 55, 47, 46, 56, 57, 62, 61, 66, 67, 68, 70, 71, 43, 44, 72, 73, 74, 75, 76, 77, 45, 78, 79, 115, 116, 117, 118, 119, 120, 121, 122, 123, 124, 125, 126, 127, 128, 129, 130, 131, 132, 133, 134, 135, 136, 137, 138, 139, 140, 141, 142, 143, 144, 145, 146, 147, 148, 149, 150] rfl (by decide +kernel)
set_option maxHeartbeats 4000000 in
set_option maxRecDepth 100000 in
theorem m_X10_take (l : Launch) (D : va_G) (t : Nat → Nat) (cI cL cC : ClassId) (gC : Int32) (gE : Int32) (gW : Nat → Int32) (gA : Nat → Int32) (gT : Nat → Int32) (gI : Int32) (gS : Int32) (gM : Int32) (K : Nat → Int32) (F : Nat → Int32) (S : Nat → Int32) (N : Nat → Int32) (gH : Int) (gJ : Int) (ge : Int32) (gk : Int32) (gf : Int32) (gs : Int32) (gg : Int32) (gr : Int32) (RN : Nat → Int32) (a0 : Nat) (a1 : Int32) (uq : ∀ b c : Nat, t b = t c → t b ≠ 0 → b = c) (hC0 : 0 ≤ gC.toInt) (hC4 : gC.toInt ≤ 400) (hI0 : 0 ≤ gI.toInt) (hI4 : gI.toInt ≤ 40) (hH0 : 0 ≤ gH) (hH9 : gH ≤ 96) (hm0 : 0 ≤ gM.toInt) (hm3 : gM.toInt ≤ 3) (hO0 : okM K F S N 0 gI.toInt) (hW : swM gS K F S N gI.toInt) (k_a0 : t a0 = 40) : tMx (Z := (Nat → Int32) × (Nat → Int32) × (Nat → Int32) × (Nat → Int32) × (Int) × (Int) × (Int32) × (Int32)) l yX10_take uX10_take 7 179 D (mF cI cL cC gC gE gW gA gT gI gS gM K F S N gH gJ ge gk gf gs gg gr RN) (fun z => (mF cI cL cC gC gE gW gA gT gI z.2.2.2.2.2.2.1 z.2.2.2.2.2.2.2 z.1 z.2.1 z.2.2.1 z.2.2.2.1 z.2.2.2.2.1 z.2.2.2.2.2.1 ge gk gf gs gg gr RN)) t cI cL cC [.ref a0, .int a1] wAll2 (xI (fun r (z : (Nat → Int32) × (Nat → Int32) × (Nat → Int32) × (Nat → Int32) × (Int) × (Int) × (Int32) × (Int32)) => 0 ≤ z.2.2.2.2.1 ∧ z.2.2.2.2.1 ≤ 96 ∧ 0 ≤ z.2.2.2.2.2.2.2.toInt ∧ z.2.2.2.2.2.2.2.toInt ≤ 3 ∧ okM z.1 z.2.1 z.2.2.1 z.2.2.2.1 0 gI.toInt ∧ swM z.2.2.2.2.2.2.1 z.1 z.2.1 z.2.2.1 z.2.2.2.1 gI.toInt)) := by
  refine tMx.ofW (cc := cX10_take) (maxL := 2) (ret := (some .int)) (by decide) rfl (Nat.le_of_ble_eq_true rfl) ?_
  intro p e s m below meth c hx hb hr hml hown hts hlk H locs hG hK hE hS ls hl
  have hl : lv_has ls 2 [(0, .ref a0), (1, .int a1)] := hl
  have in10 : ∀ w ∈ wsX100, w ∈ uX10_take := fun w h => List.mem_cons_of_mem _ (List.mem_append_right _ h)
  refine lv_iload_n hx hb dX10_take_0 rfl (lv_at hl 1 rfl) ?_
  refine lv_if_ge (tgt := 6) hx hb dX10_take_1 (by decide) (fun c_1 => ?_) (fun c_1 => ?_)
  · skip
    have c_1 : 0 ≤ a1.toInt := q_le c_1
    refine lv_aload_n hx hb dX10_take_6 rfl (lv_at hl 0 rfl) ?_
    obtain ⟨r_2, v_4, r_5, r_7, r_9, r_11, r_13, r_15, r_17, r_19, r_21, r_23, r_25, r_27, r_29, r_31, r_33, r_35, r_37, r_39, r_41, r_43, r_45, v_47, r_48, at_50, h_3, h_6, h_8, h_10, h_12, h_14, h_16, h_18, h_20, h_22, h_24, h_26, h_28, h_30, h_32, h_34, h_36, h_38, h_40, h_42, h_44, h_46, h_49⟩ := mF_o40 hG k_a0
    refine va_get (D := D) (ci := 9) (v := .int v_4) (C := RX10) (T := TX10) (N := 36) hx hb hts in10 hown hK (va_one at_50) 0 rfl rfl 2 (by decide) (hts (.fieldLink RX10 173 "RiverModelModel" "isBuilt" "Z") (List.mem_of_getElem? (i := 1) rfl)) (fun _ h9 => h9) rfl dX10_take_7 ?_
    refine lv_if_ne (tgt := 16) hx hb dX10_take_10 (by decide) (fun c_51 => ?_) (fun c_51 => ?_)
    · skip
      have c_51 : v_4.toInt ≠ 0 := q_ne c_51
      refine lv_aload_n hx hb dX10_take_16 rfl (lv_at hl 0 rfl) ?_
      refine lv_iload_n hx hb dX10_take_17 rfl (lv_at hl 1 rfl) ?_
      refine lv_pc (pc2 := 18) rfl ?_
      refine tx_calli (W.runV (As := [.int a1]) (rest := []) ⟨hx, hb, hml, hown, hts⟩ (m_X10_fitsTo l D t cI cL cC gC gE gW gA gT gI gS gM K F S N gH gJ ge gk gf gs gg gr RN a0 a1  uq (by omega) (by omega) (by omega) (by omega) hO0 k_a0) (cwV 1 hts gu_X10_take_X10_fitsTo_286 rfl rfl rfl (by decide +kernel) ⟨Nat.le_of_ble_eq_true rfl, Nat.le_of_ble_eq_true rfl⟩) (tP_V hG hE at_50 rfl) rfl rfl hl.1 rfl (lv_room (Nat.le_of_ble_eq_true rfl)) dX10_take_18 ⟨Nat.le_of_ble_eq_true rfl, Nat.le_of_ble_eq_true rfl⟩) hS (wrL_sub (by decide)) (fun r_52 zz_55 H locs hp_53 hG hS o_54 => ?_)
      obtain ⟨K_56, F_57, S_58, N_59, gH_60, gJ_61⟩ := zz_55
      replace hG : tG D (mF cI cL cC gC gE gW gA gT gI gS gM K_56 F_57 S_58 N_59 gH_60 gJ_61 ge gk gf gs gg gr RN) t H := hG
      have hp_53 : gH_60 = gH ∧ kpO K K_56 40 40 ∧ kpO F F_57 40 40 ∧ kpO S S_58 40 40 ∧ kpO N N_59 120 120 ∧ (0 ≤ a1.toInt → a1.toInt < r_52.toInt → okM K_56 F_57 S_58 N_59 40 gI.toInt) := hp_53
      obtain ⟨p_62, p_63, p_64, p_65, p_66, p_67⟩ := hp_53
      have ok_68 := okM.kpg (a := 40) (a3 := 120) (b := 0) (n := gI.toInt) (by decide) (by decide) (by omega) p_63 p_64 p_65 p_66 hO0
      have ok_69 : swM gS K_56 F_57 S_58 N_59 gI.toInt := Or.imp id (fun h => okM.kpg (a := 40) (a3 := 120) (b := 80) (n := gI.toInt) (by decide) (by decide) (by omega) p_63 p_64 p_65 p_66 h) hW
      refine lv_iload_n hx hb dX10_take_21 rfl (lv_at hl 1 rfl) ?_
      refine lv_icmp_gt (tgt := 28) hx hb dX10_take_22 (by decide) (fun c_70 => ?_) (fun c_70 => ?_)
      · skip
        have c_70 : a1.toInt < r_52.toInt := q_lt c_70
        have okT := p_67 (by omega) (by omega)
        refine lv_aload_n hx hb dX10_take_28 rfl (lv_at hl 0 rfl) ?_
        refine lv_iconst (v := 1) hx hb dX10_take_29 (by decide) ?_
        have zi_1 : (1 : Int32).toInt = 1 := by decide
        obtain ⟨r_71, v_73, r_74, r_76, r_78, r_80, r_82, r_84, r_86, r_88, r_90, r_92, r_94, r_96, r_98, r_100, r_102, r_104, r_106, r_108, r_110, r_112, r_114, v_116, r_117, at_119, h_72, h_75, h_77, h_79, h_81, h_83, h_85, h_87, h_89, h_91, h_93, h_95, h_97, h_99, h_101, h_103, h_105, h_107, h_109, h_111, h_113, h_115, h_118⟩ := mF_o40 hG k_a0
        refine tx_callv (W.runV (As := [.int 1]) (rest := []) ⟨hx, hb, hml, hown, hts⟩ (m_X10_becomes l D t cI cL cC gC gE gW gA gT gI gS gM K_56 F_57 S_58 N_59 gH_60 gJ_61 ge gk gf gs gg gr RN a0 1 40 uq (by omega) (by omega) (by omega) (by omega) (by omega) okT k_a0) (cwV 1 hts gu_X10_take_X10_becomes_190 rfl rfl rfl (by decide +kernel) ⟨Nat.le_of_ble_eq_true rfl, Nat.le_of_ble_eq_true rfl⟩) (tP_V hG hE at_119 rfl) rfl rfl hl.1 rfl (lv_room (Nat.le_of_ble_eq_true rfl)) dX10_take_30 ⟨Nat.le_of_ble_eq_true rfl, Nat.le_of_ble_eq_true rfl⟩) hS (wrL_sub (by decide)) (fun zz_123 H locs hp_121 hG hS o_122 => ?_)
        obtain ⟨K_124, F_125, S_126, N_127, gS_128, gM_129, gH_130⟩ := zz_123
        replace hG : tG D (mF cI cL cC gC gE gW gA gT gI gS_128 gM_129 K_124 F_125 S_126 N_127 gH_130 gJ_61 ge gk gf gs gg gr RN) t H := hG
        have hp_121 : gS_128.toInt = 0 ∧ gM_129.toInt = 0 ∧ gH_130 = 0 ∧ okM K_124 F_125 S_126 N_127 0 gI.toInt := hp_121
        obtain ⟨p_131, p_132, p_133, p_134⟩ := hp_121
        have hw_135 : swM gS_128 K_124 F_125 S_126 N_127 gI.toInt := Or.inl p_131
        refine lv_iconst (v := 0) hx hb dX10_take_33 (by decide) ?_
        have zi_0 : (0 : Int32).toInt = 0 := by decide
        exact tx_iret (z := (K_124, F_125, S_126, N_127, gH_130, gJ_61, gS_128, gM_129)) hx hb hr hlk hG hS ⟨(by show 0 ≤ gH_130; omega), (by show gH_130 ≤ 96; omega), (by show 0 ≤ gM_129.toInt; omega), (by show gM_129.toInt ≤ 3; omega), (show okM K_124 F_125 S_126 N_127 0 gI.toInt from p_134), (show swM gS_128 K_124 F_125 S_126 N_127 gI.toInt from hw_135)⟩ dX10_take_34
      · skip
        have c_70 : r_52.toInt ≤ a1.toInt := q_nlt c_70
        refine lv_pc (pc2 := 25) rfl ?_
        refine lv_bipush (v := (-4)) hx hb dX10_take_25 (by decide) ?_
        have zi_m4 : ((-4) : Int32).toInt = (-4) := by decide
        exact tx_iret (z := (K_56, F_57, S_58, N_59, gH_60, gJ_61, gS, gM)) hx hb hr hlk hG hS ⟨(by show 0 ≤ gH_60; omega), (by show gH_60 ≤ 96; omega), (by show 0 ≤ gM.toInt; omega), (by show gM.toInt ≤ 3; omega), (show okM K_56 F_57 S_58 N_59 0 gI.toInt from ok_68), (show swM gS K_56 F_57 S_58 N_59 gI.toInt from ok_69)⟩ dX10_take_27
    · skip
      have c_51 : v_4.toInt = 0 := q_eq c_51
      refine lv_bipush (v := (-2)) hx hb dX10_take_13 (by decide) ?_
      have zi_m2 : ((-2) : Int32).toInt = (-2) := by decide
      exact tx_iret (z := (K, F, S, N, gH, gJ, gS, gM)) hx hb hr hlk hG hS ⟨(by show 0 ≤ gH; omega), (by show gH ≤ 96; omega), (by show 0 ≤ gM.toInt; omega), (by show gM.toInt ≤ 3; omega), (show okM K F S N 0 gI.toInt from hO0), (show swM gS K F S N gI.toInt from hW)⟩ dX10_take_15
  · skip
    have c_1 : a1.toInt < 0 := q_nle c_1
    refine lv_iconst (v := (-1)) hx hb dX10_take_4 (by decide) ?_
    have zi_m1 : ((-1) : Int32).toInt = (-1) := by decide
    exact tx_iret (z := (K, F, S, N, gH, gJ, gS, gM)) hx hb hr hlk hG hS ⟨(by show 0 ≤ gH; omega), (by show gH ≤ 96; omega), (by show 0 ≤ gM.toInt; omega), (by show gM.toInt ≤ 3; omega), (show okM K F S N 0 gI.toInt from hO0), (show swM gS K F S N gI.toInt from hW)⟩ dX10_take_5

def uX10_weigh : List Cond := .code yX10_weigh cX10_weigh 4 (some .int) :: ([.constantLong RX10 243 (3), .methodLink RX10 85 yX10_in, .static yX10_in, .initialized RX10, .constantLong RX10 107 (100), .fieldLink RX10 62 "RiverModelModel" "weight" "[I", .code yX10_in cX10_in 6 (some .boolean)] ++ wsX100)
set_option maxRecDepth 20000 in
theorem gu_X10_weigh_X10_in_85 : GoodIn uX10_weigh (va_wsS RX10 85 yX10_in uX10_in) := goodIn_r _ [2, 3, 4, 7] rfl (by decide +kernel)
set_option maxHeartbeats 4000000 in
set_option maxRecDepth 100000 in
theorem m_X10_weigh (l : Launch) (D : va_G) (t : Nat → Nat) (cI cL cC : ClassId) (gC : Int32) (gE : Int32) (gW : Nat → Int32) (gA : Nat → Int32) (gT : Nat → Int32) (gI : Int32) (gS : Int32) (gM : Int32) (K : Nat → Int32) (F : Nat → Int32) (S : Nat → Int32) (N : Nat → Int32) (gH : Int) (gJ : Int) (ge : Int32) (gk : Int32) (gf : Int32) (gs : Int32) (gg : Int32) (gr : Int32) (RN : Nat → Int32) (a0 : Nat) (a1 : Int32) (a2 : Int32) (uq : ∀ b c : Nat, t b = t c → t b ≠ 0 → b = c) (hC0 : 0 ≤ gC.toInt) (hC4 : gC.toInt ≤ 400) (hI0 : 0 ≤ gI.toInt) (hI4 : gI.toInt ≤ 40) (hH0 : 0 ≤ gH) (hH9 : gH ≤ 96) (hm0 : 0 ≤ gM.toInt) (hm3 : gM.toInt ≤ 3) (hO0 : okM K F S N 0 gI.toInt) (hW : swM gS K F S N gI.toInt) (k_a0 : t a0 = 40) : tMx (Z := (Nat → Int32)) l yX10_weigh uX10_weigh 1 25 D (mF cI cL cC gC gE gW gA gT gI gS gM K F S N gH gJ ge gk gf gs gg gr RN) (fun z => (mF cI cL cC gC gE z gA gT gI gS gM K F S N gH gJ ge gk gf gs gg gr RN)) t cI cL cC [.ref a0, .int a1, .int a2] wW (xI (fun r (z : (Nat → Int32)) => r = awe gW a1 a2 ∧ z = nwe gW a1 a2)) := by
  refine tMx.ofW (cc := cX10_weigh) (maxL := 4) (ret := (some .int)) (by decide) rfl (Nat.le_of_ble_eq_true rfl) ?_
  intro p e s m below meth c hx hb hr hml hown hts hlk H locs hG hK hE hS ls hl
  have hl : lv_has ls 4 [(0, .ref a0), (1, .int a1), (2, .int a2)] := hl
  have in10 : ∀ w ∈ wsX100, w ∈ uX10_weigh := fun w h => List.mem_cons_of_mem _ (List.mem_append_right _ h)
  refine lv_iload_n hx hb dX10_weigh_0 rfl (lv_at hl 1 rfl) ?_
  refine lv_i2l (v := a1.toInt64) hx hb dX10_weigh_1 rfl ?_
  refine lv_lconst (v := 0) hx hb dX10_weigh_2 (by decide) ?_
  refine lv_ldc2 hx hb hown (hts (.constantLong RX10 243 (3)) (List.mem_of_getElem? (i := 1) rfl)) dX10_weigh_3 ?_
  have zl_0 : (0 : Int64).toInt = 0 := by decide
  have zl_3 : (3 : Int64).toInt = 3 := by decide
  refine ty_calli (W.runS (As := [.long a1.toInt64, .long 0, .long 3]) (rest := []) ⟨hx, hb, hml, hown, hts⟩ (m_X10_in l D t cI cL cC gC gE gW gA gT gI gS gM K F S N gH gJ ge gk gf gs gg gr RN a1.toInt64 0 3 a1.toInt 0 3 uq (q_i2l _) (by decide) (by decide) ) (va_cwS 3 hts gu_X10_weigh_X10_in_85 rfl rfl rfl (by decide +kernel) ⟨Nat.le_of_ble_eq_true rfl, Nat.le_of_ble_eq_true rfl⟩) (tP_S hG hE) rfl rfl hl.1 rfl (lv_room (Nat.le_of_ble_eq_true rfl)) dX10_weigh_6 ⟨Nat.le_of_ble_eq_true rfl, Nat.le_of_ble_eq_true rfl⟩) hS (fun k h => by simp [wr0] at h) (fun r_1 H locs hp_2 hG hS o_3 => ?_)
  have hp_2 : (r_1 = 1 ∧ 0 ≤ a1.toInt ∧ a1.toInt ≤ 3) ∨ (r_1 = 0 ∧ (a1.toInt < 0 ∨ 3 < a1.toInt)) := hp_2
  rcases hp_2 with ⟨rfl, p_5, p_6⟩ | ⟨rfl, p_7⟩
  · skip
    refine lv_if_eq (tgt := 24) hx hb dX10_weigh_9 (by decide) (fun q => absurd q (by decide)) (fun _ => ?_)
    refine lv_iload_n hx hb dX10_weigh_12 rfl (lv_at hl 2 rfl) ?_
    refine lv_pc (pc2 := 13) rfl ?_
    refine lv_i2l (v := a2.toInt64) hx hb dX10_weigh_13 rfl ?_
    refine lv_lconst (v := 0) hx hb dX10_weigh_14 (by decide) ?_
    refine lv_ldc2 hx hb hown (hts (.constantLong RX10 107 (100)) (List.mem_of_getElem? (i := 5) rfl)) dX10_weigh_15 ?_
    have zl_100 : (100 : Int64).toInt = 100 := by decide
    refine ty_calli (W.runS (As := [.long a2.toInt64, .long 0, .long 100]) (rest := []) ⟨hx, hb, hml, hown, hts⟩ (m_X10_in l D t cI cL cC gC gE gW gA gT gI gS gM K F S N gH gJ ge gk gf gs gg gr RN a2.toInt64 0 100 a2.toInt 0 100 uq (q_i2l _) (by decide) (by decide) ) (va_cwS 3 hts gu_X10_weigh_X10_in_85 rfl rfl rfl (by decide +kernel) ⟨Nat.le_of_ble_eq_true rfl, Nat.le_of_ble_eq_true rfl⟩) (tP_S hG hE) rfl rfl hl.1 rfl (lv_room (Nat.le_of_ble_eq_true rfl)) dX10_weigh_18 ⟨Nat.le_of_ble_eq_true rfl, Nat.le_of_ble_eq_true rfl⟩) hS (fun k h => by simp [wr0] at h) (fun r_8 H locs hp_9 hG hS o_10 => ?_)
    have hp_9 : (r_8 = 1 ∧ 0 ≤ a2.toInt ∧ a2.toInt ≤ 100) ∨ (r_8 = 0 ∧ (a2.toInt < 0 ∨ 100 < a2.toInt)) := hp_9
    rcases hp_9 with ⟨rfl, p_12, p_13⟩ | ⟨rfl, p_14⟩
    · skip
      refine lv_if_ne (tgt := 26) hx hb dX10_weigh_21 (by decide) (fun _ => ?_) (fun q => absurd q (by decide))
      refine lv_aload_n hx hb dX10_weigh_26 rfl (lv_at hl 0 rfl) ?_
      obtain ⟨r_15, v_17, r_18, r_20, r_22, r_24, r_26, r_28, r_30, r_32, r_34, r_36, r_38, r_40, r_42, r_44, r_46, r_48, r_50, r_52, r_54, r_56, r_58, v_60, r_61, at_63, h_16, h_19, h_21, h_23, h_25, h_27, h_29, h_31, h_33, h_35, h_37, h_39, h_41, h_43, h_45, h_47, h_49, h_51, h_53, h_55, h_57, h_59, h_62⟩ := mF_o40 hG k_a0
      refine va_get (D := D) (ci := 9) (v := .ref r_50) (C := RX10) (T := TX10) (N := 36) hx hb hts in10 hown hK (va_one at_63) 0 rfl rfl 23 (by decide) (hts (.fieldLink RX10 62 "RiverModelModel" "weight" "[I") (List.mem_of_getElem? (i := 6) rfl)) (fun _ h9 => h9) rfl dX10_weigh_27 ?_
      refine lv_iload_n hx hb dX10_weigh_30 rfl (lv_at hl 1 rfl) ?_
      refine lv_pc (pc2 := 31) rfl ?_
      have at_64 := mF_o58 hG h_51
      have b_65 : vp_in a1 4 := (q_in (by omega) (by omega))
      refine va_iald hx hb hK (va_one at_64) 0 0 rfl rfl b_65 dX10_weigh_31 ?_
      refine lv_topi (fun x_66 e_67 => ?_)
      have w_x_66 : x_66 = gW (a1.toInt).toNat := by rw [e_67]; exact congrArg (fun q : Int => gW q.toNat) (show a1.toInt = a1.toInt by omega)
      have i_x_66 : x_66.toInt = (gW (a1.toInt).toNat).toInt := by rw [w_x_66]
      refine lv_istore_n (lv' := [(3, .int x_66), (0, .ref a0), (1, .int a1), (2, .int a2)]) hx hb dX10_weigh_32 rfl hl (by decide) rfl (fun ls hl => ?_)
      refine lv_aload_n hx hb dX10_weigh_33 rfl (lv_at hl 1 rfl) ?_
      refine va_get (D := D) (ci := 9) (v := .ref r_50) (C := RX10) (T := TX10) (N := 36) hx hb hts in10 hown hK (va_one at_63) 0 rfl rfl 23 (by decide) (hts (.fieldLink RX10 62 "RiverModelModel" "weight" "[I") (List.mem_of_getElem? (i := 6) rfl)) (fun _ h9 => h9) rfl dX10_weigh_34 ?_
      refine lv_iload_n hx hb dX10_weigh_37 rfl (lv_at hl 2 rfl) ?_
      refine lv_iload_n hx hb dX10_weigh_38 rfl (lv_at hl 3 rfl) ?_
      have b_68 : vp_in a1 4 := (q_in (by omega) (by omega))
      obtain ⟨q_69, eq_69⟩ : ∃ q : Nat → Int32, q = upd gW a1.toNatClampNeg a2 := ⟨_, rfl⟩
      refine ty_iast (F2 := (mF cI cL cC gC gE q_69 gA gT gI gS gM K F S N gH gJ ge gk gf gs gg gr RN)) hx hb hK hG hS 0 at_64 (by rw [h_51]; rfl) rfl b_68 (by rw [h_51]; show _ = _; rw [eq_69]) (fun hG b hb h0 => by obtain ⟨e, g1, g2⟩ := hG b h0; exact ⟨e, g1, mF_gW (fun h => hb (uq b r_50 (h.trans h_51.symm) h0)) g2⟩) dX10_weigh_39 (fun H locs hG hS at_70 o_71 => ?_)
      have at_63 := va_at.keptK at_63 o_71 h_51 k_a0 rfl
      refine lv_iload_n hx hb dX10_weigh_40 rfl (lv_at hl 0 rfl) ?_
      refine lv_pc (pc2 := 41) rfl ?_
      exact tx_iret (z := (q_69)) hx hb hr hlk hG hS ⟨(by show x_66 = awe gW a1 a2; rw [w_x_66]; simp only [awe]; rw [if_neg (by omega)]; rfl), (by show q_69 = nwe gW a1 a2; rw [eq_69]; simp only [nwe]; first | (rw [if_neg (by omega)]; done) | (rw [if_neg (by omega)]; rfl))⟩ dX10_weigh_41
    · skip
      refine lv_if_ne (tgt := 26) hx hb dX10_weigh_21 (by decide) (fun q => absurd rfl q) (fun _ => ?_)
      refine lv_iconst (v := (-1)) hx hb dX10_weigh_24 (by decide) ?_
      have zi_m1 : ((-1) : Int32).toInt = (-1) := by decide
      exact tx_iret (z := (gW)) hx hb hr hlk hG hS ⟨(by show ((-1) : Int32) = awe gW a1 a2; simp only [awe]; rw [if_pos (by omega)]), (by show gW = nwe gW a1 a2; simp only [nwe]; rw [if_pos (by omega)])⟩ dX10_weigh_25
  · skip
    refine lv_if_eq (tgt := 24) hx hb dX10_weigh_9 (by decide) (fun _ => ?_) (fun q => absurd (by decide) q)
    refine lv_iconst (v := (-1)) hx hb dX10_weigh_24 (by decide) ?_
    have zi_m1 : ((-1) : Int32).toInt = (-1) := by decide
    exact tx_iret (z := (gW)) hx hb hr hlk hG hS ⟨(by show ((-1) : Int32) = awe gW a1 a2; simp only [awe]; rw [if_pos (by omega)]), (by show gW = nwe gW a1 a2; simp only [nwe]; rw [if_pos (by omega)])⟩ dX10_weigh_25

def uX10_rain : List Cond := .code yX10_rain cX10_rain 5 (some .int) :: ([.constantLong RX10 243 (3), .methodLink RX10 85 yX10_in, .static yX10_in, .initialized RX10, .constantLong RX10 289 (23), .constantLong RX10 103 (10000), .fieldLink RX10 65 "RiverModelModel" "ahead" "[I", .code yX10_in cX10_in 6 (some .boolean)] ++ wsX100)
set_option maxRecDepth 20000 in
theorem gu_X10_rain_X10_in_85 : GoodIn uX10_rain (va_wsS RX10 85 yX10_in uX10_in) := goodIn_r _ [2, 3, 4, 8] rfl (by decide +kernel)
set_option maxHeartbeats 4000000 in
set_option maxRecDepth 100000 in
theorem m_X10_rain (l : Launch) (D : va_G) (t : Nat → Nat) (cI cL cC : ClassId) (gC : Int32) (gE : Int32) (gW : Nat → Int32) (gA : Nat → Int32) (gT : Nat → Int32) (gI : Int32) (gS : Int32) (gM : Int32) (K : Nat → Int32) (F : Nat → Int32) (S : Nat → Int32) (N : Nat → Int32) (gH : Int) (gJ : Int) (ge : Int32) (gk : Int32) (gf : Int32) (gs : Int32) (gg : Int32) (gr : Int32) (RN : Nat → Int32) (a0 : Nat) (a1 : Int32) (a2 : Int32) (a3 : Int32) (uq : ∀ b c : Nat, t b = t c → t b ≠ 0 → b = c) (hC0 : 0 ≤ gC.toInt) (hC4 : gC.toInt ≤ 400) (hI0 : 0 ≤ gI.toInt) (hI4 : gI.toInt ≤ 40) (hH0 : 0 ≤ gH) (hH9 : gH ≤ 96) (hm0 : 0 ≤ gM.toInt) (hm3 : gM.toInt ≤ 3) (hO0 : okM K F S N 0 gI.toInt) (hW : swM gS K F S N gI.toInt) (k_a0 : t a0 = 40) : tMx (Z := (Nat → Int32)) l yX10_rain uX10_rain 1 25 D (mF cI cL cC gC gE gW gA gT gI gS gM K F S N gH gJ ge gk gf gs gg gr RN) (fun z => (mF cI cL cC gC gE gW z gT gI gS gM K F S N gH gJ ge gk gf gs gg gr RN)) t cI cL cC [.ref a0, .int a1, .int a2, .int a3] wA2 (xI (fun r (z : (Nat → Int32)) => r = arw gA a1 a2 a3 ∧ z = nrw gA a1 a2 a3)) := by
  refine tMx.ofW (cc := cX10_rain) (maxL := 5) (ret := (some .int)) (by decide) rfl (Nat.le_of_ble_eq_true rfl) ?_
  intro p e s m below meth c hx hb hr hml hown hts hlk H locs hG hK hE hS ls hl
  have hl : lv_has ls 5 [(0, .ref a0), (1, .int a1), (2, .int a2), (3, .int a3)] := hl
  have in10 : ∀ w ∈ wsX100, w ∈ uX10_rain := fun w h => List.mem_cons_of_mem _ (List.mem_append_right _ h)
  refine lv_iload_n hx hb dX10_rain_0 rfl (lv_at hl 1 rfl) ?_
  refine lv_i2l (v := a1.toInt64) hx hb dX10_rain_1 rfl ?_
  refine lv_lconst (v := 0) hx hb dX10_rain_2 (by decide) ?_
  refine lv_ldc2 hx hb hown (hts (.constantLong RX10 243 (3)) (List.mem_of_getElem? (i := 1) rfl)) dX10_rain_3 ?_
  have zl_0 : (0 : Int64).toInt = 0 := by decide
  have zl_3 : (3 : Int64).toInt = 3 := by decide
  refine ty_calli (W.runS (As := [.long a1.toInt64, .long 0, .long 3]) (rest := []) ⟨hx, hb, hml, hown, hts⟩ (m_X10_in l D t cI cL cC gC gE gW gA gT gI gS gM K F S N gH gJ ge gk gf gs gg gr RN a1.toInt64 0 3 a1.toInt 0 3 uq (q_i2l _) (by decide) (by decide) ) (va_cwS 3 hts gu_X10_rain_X10_in_85 rfl rfl rfl (by decide +kernel) ⟨Nat.le_of_ble_eq_true rfl, Nat.le_of_ble_eq_true rfl⟩) (tP_S hG hE) rfl rfl hl.1 rfl (lv_room (Nat.le_of_ble_eq_true rfl)) dX10_rain_6 ⟨Nat.le_of_ble_eq_true rfl, Nat.le_of_ble_eq_true rfl⟩) hS (fun k h => by simp [wr0] at h) (fun r_1 H locs hp_2 hG hS o_3 => ?_)
  have hp_2 : (r_1 = 1 ∧ 0 ≤ a1.toInt ∧ a1.toInt ≤ 3) ∨ (r_1 = 0 ∧ (a1.toInt < 0 ∨ 3 < a1.toInt)) := hp_2
  rcases hp_2 with ⟨rfl, p_5, p_6⟩ | ⟨rfl, p_7⟩
  · skip
    refine lv_if_eq (tgt := 36) hx hb dX10_rain_9 (by decide) (fun q => absurd q (by decide)) (fun _ => ?_)
    refine lv_iload_n hx hb dX10_rain_12 rfl (lv_at hl 2 rfl) ?_
    refine lv_pc (pc2 := 13) rfl ?_
    refine lv_i2l (v := a2.toInt64) hx hb dX10_rain_13 rfl ?_
    refine lv_lconst (v := 0) hx hb dX10_rain_14 (by decide) ?_
    refine lv_ldc2 hx hb hown (hts (.constantLong RX10 289 (23)) (List.mem_of_getElem? (i := 5) rfl)) dX10_rain_15 ?_
    have zl_23 : (23 : Int64).toInt = 23 := by decide
    refine ty_calli (W.runS (As := [.long a2.toInt64, .long 0, .long 23]) (rest := []) ⟨hx, hb, hml, hown, hts⟩ (m_X10_in l D t cI cL cC gC gE gW gA gT gI gS gM K F S N gH gJ ge gk gf gs gg gr RN a2.toInt64 0 23 a2.toInt 0 23 uq (q_i2l _) (by decide) (by decide) ) (va_cwS 3 hts gu_X10_rain_X10_in_85 rfl rfl rfl (by decide +kernel) ⟨Nat.le_of_ble_eq_true rfl, Nat.le_of_ble_eq_true rfl⟩) (tP_S hG hE) rfl rfl hl.1 rfl (lv_room (Nat.le_of_ble_eq_true rfl)) dX10_rain_18 ⟨Nat.le_of_ble_eq_true rfl, Nat.le_of_ble_eq_true rfl⟩) hS (fun k h => by simp [wr0] at h) (fun r_8 H locs hp_9 hG hS o_10 => ?_)
    have hp_9 : (r_8 = 1 ∧ 0 ≤ a2.toInt ∧ a2.toInt ≤ 23) ∨ (r_8 = 0 ∧ (a2.toInt < 0 ∨ 23 < a2.toInt)) := hp_9
    rcases hp_9 with ⟨rfl, p_12, p_13⟩ | ⟨rfl, p_14⟩
    · skip
      refine lv_if_eq (tgt := 36) hx hb dX10_rain_21 (by decide) (fun q => absurd q (by decide)) (fun _ => ?_)
      refine lv_iload_n hx hb dX10_rain_24 rfl (lv_at hl 3 rfl) ?_
      refine lv_i2l (v := a3.toInt64) hx hb dX10_rain_25 rfl ?_
      refine lv_lconst (v := 0) hx hb dX10_rain_26 (by decide) ?_
      refine lv_pc (pc2 := 27) rfl ?_
      refine lv_ldc2 hx hb hown (hts (.constantLong RX10 103 (10000)) (List.mem_of_getElem? (i := 6) rfl)) dX10_rain_27 ?_
      have zl_10000 : (10000 : Int64).toInt = 10000 := by decide
      refine ty_calli (W.runS (As := [.long a3.toInt64, .long 0, .long 10000]) (rest := []) ⟨hx, hb, hml, hown, hts⟩ (m_X10_in l D t cI cL cC gC gE gW gA gT gI gS gM K F S N gH gJ ge gk gf gs gg gr RN a3.toInt64 0 10000 a3.toInt 0 10000 uq (q_i2l _) (by decide) (by decide) ) (va_cwS 3 hts gu_X10_rain_X10_in_85 rfl rfl rfl (by decide +kernel) ⟨Nat.le_of_ble_eq_true rfl, Nat.le_of_ble_eq_true rfl⟩) (tP_S hG hE) rfl rfl hl.1 rfl (lv_room (Nat.le_of_ble_eq_true rfl)) dX10_rain_30 ⟨Nat.le_of_ble_eq_true rfl, Nat.le_of_ble_eq_true rfl⟩) hS (fun k h => by simp [wr0] at h) (fun r_15 H locs hp_16 hG hS o_17 => ?_)
      have hp_16 : (r_15 = 1 ∧ 0 ≤ a3.toInt ∧ a3.toInt ≤ 10000) ∨ (r_15 = 0 ∧ (a3.toInt < 0 ∨ 10000 < a3.toInt)) := hp_16
      rcases hp_16 with ⟨rfl, p_19, p_20⟩ | ⟨rfl, p_21⟩
      · skip
        refine lv_if_ne (tgt := 38) hx hb dX10_rain_33 (by decide) (fun _ => ?_) (fun q => absurd q (by decide))
        refine lv_aload_n hx hb dX10_rain_38 rfl (lv_at hl 0 rfl) ?_
        obtain ⟨r_22, v_24, r_25, r_27, r_29, r_31, r_33, r_35, r_37, r_39, r_41, r_43, r_45, r_47, r_49, r_51, r_53, r_55, r_57, r_59, r_61, r_63, r_65, v_67, r_68, at_70, h_23, h_26, h_28, h_30, h_32, h_34, h_36, h_38, h_40, h_42, h_44, h_46, h_48, h_50, h_52, h_54, h_56, h_58, h_60, h_62, h_64, h_66, h_69⟩ := mF_o40 hG k_a0
        refine va_get (D := D) (ci := 9) (v := .ref r_59) (C := RX10) (T := TX10) (N := 36) hx hb hts in10 hown hK (va_one at_70) 0 rfl rfl 24 (by decide) (hts (.fieldLink RX10 65 "RiverModelModel" "ahead" "[I") (List.mem_of_getElem? (i := 7) rfl)) (fun _ h9 => h9) rfl dX10_rain_39 ?_
        refine lv_bipush (v := 24) hx hb dX10_rain_42 (by decide) ?_
        refine lv_iload_n hx hb dX10_rain_44 rfl (lv_at hl 1 rfl) ?_
        refine lv_imul hx hb dX10_rain_45 ?_
        refine lv_topi (fun x_71 e_72 => ?_)
        have i_x_71 : x_71.toInt = 24 * a1.toInt := by rw [e_72]; exact (q_mul (by rw [show (24 : Int32).toInt = 24 by decide]; omega) (by rw [show (24 : Int32).toInt = 24 by decide]; omega)).trans (by rw [show (24 : Int32).toInt = 24 by decide])
        refine lv_pc (pc2 := 46) rfl ?_
        refine lv_iload_n hx hb dX10_rain_46 rfl (lv_at hl 2 rfl) ?_
        refine lv_iadd hx hb dX10_rain_47 ?_
        refine lv_topi (fun x_73 e_74 => ?_)
        have i_x_73 : x_73.toInt = x_71.toInt + a2.toInt := by rw [e_74]; exact (q_add (by omega) (by omega)).trans (by rfl)
        have at_75 := mF_o59 hG h_60
        have b_76 : vp_in x_73 96 := (q_in (by omega) (by omega))
        refine va_iald hx hb hK (va_one at_75) 0 0 rfl rfl b_76 dX10_rain_48 ?_
        refine lv_topi (fun x_77 e_78 => ?_)
        have w_x_77 : x_77 = gA (a1.toInt * 24 + a2.toInt).toNat := by rw [e_78]; exact congrArg (fun q : Int => gA q.toNat) (show x_73.toInt = a1.toInt * 24 + a2.toInt by omega)
        have i_x_77 : x_77.toInt = (gA (a1.toInt * 24 + a2.toInt).toNat).toInt := by rw [w_x_77]
        refine lv_istore (lv' := [(4, .int x_77), (0, .ref a0), (1, .int a1), (2, .int a2), (3, .int a3)]) hx hb dX10_rain_49 hl (by decide) rfl (fun ls hl => ?_)
        refine lv_aload_n hx hb dX10_rain_51 rfl (lv_at hl 1 rfl) ?_
        refine va_get (D := D) (ci := 9) (v := .ref r_59) (C := RX10) (T := TX10) (N := 36) hx hb hts in10 hown hK (va_one at_70) 0 rfl rfl 24 (by decide) (hts (.fieldLink RX10 65 "RiverModelModel" "ahead" "[I") (List.mem_of_getElem? (i := 7) rfl)) (fun _ h9 => h9) rfl dX10_rain_52 ?_
        refine lv_bipush (v := 24) hx hb dX10_rain_55 (by decide) ?_
        refine lv_iload_n hx hb dX10_rain_57 rfl (lv_at hl 2 rfl) ?_
        refine lv_pc (pc2 := 58) rfl ?_
        refine lv_imul hx hb dX10_rain_58 ?_
        refine lv_topi (fun x_79 e_80 => ?_)
        have i_x_79 : x_79.toInt = 24 * a1.toInt := by rw [e_80]; exact (q_mul (by rw [show (24 : Int32).toInt = 24 by decide]; omega) (by rw [show (24 : Int32).toInt = 24 by decide]; omega)).trans (by rw [show (24 : Int32).toInt = 24 by decide])
        refine lv_iload_n hx hb dX10_rain_59 rfl (lv_at hl 3 rfl) ?_
        refine lv_iadd hx hb dX10_rain_60 ?_
        refine lv_topi (fun x_81 e_82 => ?_)
        have i_x_81 : x_81.toInt = x_79.toInt + a2.toInt := by rw [e_82]; exact (q_add (by omega) (by omega)).trans (by rfl)
        refine lv_iload_n hx hb dX10_rain_61 rfl (lv_at hl 4 rfl) ?_
        have b_83 : vp_in x_81 96 := (q_in (by omega) (by omega))
        obtain ⟨q_84, eq_84⟩ : ∃ q : Nat → Int32, q = upd gA x_81.toNatClampNeg a3 := ⟨_, rfl⟩
        refine ty_iast (F2 := (mF cI cL cC gC gE gW q_84 gT gI gS gM K F S N gH gJ ge gk gf gs gg gr RN)) hx hb hK hG hS 0 at_75 (by rw [h_60]; rfl) rfl b_83 (by rw [h_60]; show _ = _; rw [eq_84]) (fun hG b hb h0 => by obtain ⟨e, g1, g2⟩ := hG b h0; exact ⟨e, g1, mF_gA (fun h => hb (uq b r_59 (h.trans h_60.symm) h0)) g2⟩) dX10_rain_62 (fun H locs hG hS at_85 o_86 => ?_)
        have at_70 := va_at.keptK at_70 o_86 h_60 k_a0 rfl
        refine lv_iload hx hb dX10_rain_63 (lv_at hl 0 rfl) ?_
        exact tx_iret (z := (q_84)) hx hb hr hlk hG hS ⟨(by show x_77 = arw gA a1 a2 a3; rw [w_x_77]; simp only [arw]; rw [if_neg (by omega)]), (by show q_84 = nrw gA a1 a2 a3; rw [eq_84, q_clE (x := x_81) (n := a1.toInt * 24 + a2.toInt) (by omega)]; simp only [nrw]; rw [if_neg (by omega)])⟩ dX10_rain_65
      · skip
        refine lv_if_ne (tgt := 38) hx hb dX10_rain_33 (by decide) (fun q => absurd rfl q) (fun _ => ?_)
        refine lv_pc (pc2 := 36) rfl ?_
        refine lv_iconst (v := (-1)) hx hb dX10_rain_36 (by decide) ?_
        have zi_m1 : ((-1) : Int32).toInt = (-1) := by decide
        exact tx_iret (z := (gA)) hx hb hr hlk hG hS ⟨(by show ((-1) : Int32) = arw gA a1 a2 a3; simp only [arw]; rw [if_pos (by omega)]), (by show gA = nrw gA a1 a2 a3; simp only [nrw]; rw [if_pos (by omega)])⟩ dX10_rain_37
    · skip
      refine lv_if_eq (tgt := 36) hx hb dX10_rain_21 (by decide) (fun _ => ?_) (fun q => absurd (by decide) q)
      refine lv_iconst (v := (-1)) hx hb dX10_rain_36 (by decide) ?_
      have zi_m1 : ((-1) : Int32).toInt = (-1) := by decide
      exact tx_iret (z := (gA)) hx hb hr hlk hG hS ⟨(by show ((-1) : Int32) = arw gA a1 a2 a3; simp only [arw]; rw [if_pos (by omega)]), (by show gA = nrw gA a1 a2 a3; simp only [nrw]; rw [if_pos (by omega)])⟩ dX10_rain_37
  · skip
    refine lv_if_eq (tgt := 36) hx hb dX10_rain_9 (by decide) (fun _ => ?_) (fun q => absurd (by decide) q)
    refine lv_iconst (v := (-1)) hx hb dX10_rain_36 (by decide) ?_
    have zi_m1 : ((-1) : Int32).toInt = (-1) := by decide
    exact tx_iret (z := (gA)) hx hb hr hlk hG hS ⟨(by show ((-1) : Int32) = arw gA a1 a2 a3; simp only [arw]; rw [if_pos (by omega)]), (by show gA = nrw gA a1 a2 a3; simp only [nrw]; rw [if_pos (by omega)])⟩ dX10_rain_37

def uX10_peakBy : List Cond := .code yX10_peakBy cX10_peakBy 9 (some .long) :: ([.methodLink RX10 274 yX10_asides, .instanceMethod yX10_asides, .selects RX10 yX10_asides yX10_asides, .initialized RX10, .constantLong RX10 236 (-1), .methodLink RX10 277 yX10_returns, .instanceMethod yX10_returns, .selects RX10 yX10_returns yX10_returns, .fieldLink RX10 28 "RiverModelModel" "m" "[J", .fieldLink RX10 65 "RiverModelModel" "ahead" "[I", .fieldLink RX10 25 "RiverModelModel" "weather" "[I", .methodLink RX10 225 yX10_passes, .instanceMethod yX10_passes, .selects RX10 yX10_passes yX10_passes, .methodLink RX10 251 yX10_reading, .instanceMethod yX10_reading, .selects RX10 yX10_reading yX10_reading, .code yX10_asides cX10_asides 2 none, .fieldLink RX10 32 "RiverModelModel" "aside" "[J", .code yX10_returns cX10_returns 2 none, .code yX10_passes cX10_passes 12 none, .fieldLink RX10 163 "RiverModelModel" "items" "I", .fieldLink RX10 13 "RiverModelModel" "kind" "[I", .methodLink RX10 221 yX10_moves, .instanceMethod yX10_moves, .selects RX10 yX10_moves yX10_moves, .fieldLink RX10 16 "RiverModelModel" "first" "[I", .fieldLink RX10 19 "RiverModelModel" "second" "[I", .fieldLink RX10 22 "RiverModelModel" "number" "[I", .code yX10_moves cX10_moves 8 (some .long), .constantLong RX10 219 (10), .methodLink RX10 215 yX10_most, .instanceMethod yX10_most, .selects RX10 yX10_most yX10_most, .constantLong RX10 107 (100), .methodLink RX10 211 yX10_capacity, .instanceMethod yX10_capacity, .selects RX10 yX10_capacity yX10_capacity, .code yX10_most cX10_most 4 (some .long), .code yX10_capacity cX10_capacity 3 (some .long), .methodLink RX10 166 yX10_storeAt, .instanceMethod yX10_storeAt, .selects RX10 yX10_storeAt yX10_storeAt, .code yX10_storeAt cX10_storeAt 5 (some .int), .code yX10_reading cX10_reading 2 (some .long), .fieldLink RX10 38 "RiverModelModel" "gaugeKind" "[I", .fieldLink RX10 41 "RiverModelModel" "gaugeAt" "[I"] ++ wsX100)
set_option maxRecDepth 20000 in
theorem gu_X10_peakBy_X10_asides_274 : GoodIn uX10_peakBy (wsV RX10 274 RX10 yX10_asides uX10_asides) := goodIn_r _ [1, 2, 3, 4, 18, 19, 9, 48, 49, 50, 51, 52, 53, 54, 55, 56, 57, 58, 59, 60, 61, 62, 63, 64, 65, 66, 67, 68, 69, 70, 71, 72, 73, 74, 75, 76, 77, 78, 79, 80, 81, 82, 83] rfl (by decide +kernel)
set_option maxRecDepth 20000 in
theorem gu_X10_peakBy_X10_returns_277 : GoodIn uX10_peakBy (wsV RX10 277 RX10 yX10_returns uX10_returns) := goodIn_r _ [6, 7, 8, 4, 20, 9, 19, 48, 49, 50, 51, 52, 53, 54, 55, 56, 57, 58, 59, 60, 61, 62, 63, 64, 65, 66, 67, 68, 69, 70, 71, 72, 73, 74, 75, 76, 77, 78, 79, 80, 81, 82, 83] rfl (by decide +kernel)
set_option maxRecDepth 20000 in
theorem gu_X10_peakBy_X10_passes_225 : GoodIn uX10_peakBy (wsV RX10 225 RX10 yX10_passes uX10_passes) := goodIn_r _ [12, 13, 14, 4, 21, 9, 22, 23, 24, 25, 26, 4, 27, 28, 29, 30, 31, 32, 33, 34, 35, 36, 37, 38, 39, 40, 41, 42, 43, 44, 48, 49, 50, 51, 52, 53, 54, 55, 56, 57, 58, 59, 60, 61, 62, 63, 64, 65, 66, 67, 68, 69, 70, 71, 72, 73, 74, 75, 76, 77, 78, 79, 80, 81, 82, 83] rfl (by decide +kernel)
set_option maxRecDepth 20000 in
theorem gu_X10_peakBy_X10_reading_251 : GoodIn uX10_peakBy (wsV RX10 251 RX10 yX10_reading uX10_reading) := goodIn_r _ [15, 16, 17, 4, 45, 46, 9, 47, 48, 49, 50, 51, 52, 53, 54, 55, 56, 57, 58, 59, 60, 61, 62, 63, 64, 65, 66, 67, 68, 69, 70, 71, 72, 73, 74, 75, 76, 77, 78, 79, 80, 81, 82, 83] rfl (by decide +kernel)
set_option maxHeartbeats 4000000 in
set_option maxRecDepth 100000 in
theorem m_X10_peakBy (l : Launch) (D : va_G) (t : Nat → Nat) (cI cL cC : ClassId) (gC : Int32) (gE : Int32) (gW : Nat → Int32) (gA : Nat → Int32) (gT : Nat → Int32) (gI : Int32) (gS : Int32) (gM : Int32) (K : Nat → Int32) (F : Nat → Int32) (S : Nat → Int32) (N : Nat → Int32) (gH : Int) (gJ : Int) (ge : Int32) (gk : Int32) (gf : Int32) (gs : Int32) (gg : Int32) (gr : Int32) (RN : Nat → Int32) (a0 : Nat) (a1 : Int32) (a2 : Int32) (a3 : Int32) (uq : ∀ b c : Nat, t b = t c → t b ≠ 0 → b = c) (hI0 : 0 ≤ gI.toInt) (hI4 : gI.toInt ≤ 40) (hH0 : 0 ≤ gH) (hH9 : gH ≤ 96) (hO0 : okM K F S N 0 gI.toInt) (hg0 : 0 ≤ a1.toInt) (hg3 : a1.toInt ≤ 3) (hn0 : 0 ≤ a2.toInt) (hn4 : a2.toInt ≤ 24) (hn9 : gH + a2.toInt ≤ 96) (hw1 : -1 ≤ a3.toInt) (hw3 : a3.toInt ≤ 3) (k_a0 : t a0 = 40) : tMx (Z := (Int) × (Int)) l yX10_peakBy uX10_peakBy 4 104 D (mF cI cL cC gC gE gW gA gT gI gS gM K F S N gH gJ ge gk gf gs gg gr RN) (fun z => (mF cI cL cC gC gE gW gA gT gI gS gM K F S N z.1 z.2 ge gk gf gs gg gr RN)) t cI cL cC [.ref a0, .int a1, .int a2, .int a3] wmj (xL (fun r (z : (Int) × (Int)) => z.1 = gH)) := by
  refine tMx.ofW (cc := cX10_peakBy) (maxL := 9) (ret := (some .long)) (by decide) rfl (Nat.le_of_ble_eq_true rfl) ?_
  intro p e s m below meth c hx hb hr hml hown hts hlk H locs hG hK hE hS ls hl
  have hl : lv_has ls 9 [(0, .ref a0), (1, .int a1), (2, .int a2), (3, .int a3)] := hl
  have in10 : ∀ w ∈ wsX100, w ∈ uX10_peakBy := fun w h => List.mem_cons_of_mem _ (List.mem_append_right _ h)
  refine lv_aload_n hx hb dX10_peakBy_0 rfl (lv_at hl 0 rfl) ?_
  obtain ⟨r_1, v_3, r_4, r_6, r_8, r_10, r_12, r_14, r_16, r_18, r_20, r_22, r_24, r_26, r_28, r_30, r_32, r_34, r_36, r_38, r_40, r_42, r_44, v_46, r_47, at_49, h_2, h_5, h_7, h_9, h_11, h_13, h_15, h_17, h_19, h_21, h_23, h_25, h_27, h_29, h_31, h_33, h_35, h_37, h_39, h_41, h_43, h_45, h_48⟩ := mF_o40 hG k_a0
  refine tx_callv (W.runV (As := []) (rest := []) ⟨hx, hb, hml, hown, hts⟩ (m_X10_asides l D t cI cL cC gC gE gW gA gT gI gS gM K F S N gH gJ ge gk gf gs gg gr RN a0  uq  k_a0) (cwV 0 hts gu_X10_peakBy_X10_asides_274 rfl rfl rfl (by decide +kernel) ⟨Nat.le_of_ble_eq_true rfl, Nat.le_of_ble_eq_true rfl⟩) (tP_V hG hE at_49 rfl) rfl rfl hl.1 rfl (lv_room (Nat.le_of_ble_eq_true rfl)) dX10_peakBy_1 ⟨Nat.le_of_ble_eq_true rfl, Nat.le_of_ble_eq_true rfl⟩) hS (wrL_sub (by decide)) (fun gJ_54 H locs hp_51 hG hS o_52 => ?_)
  have at_49 := va_at.keptC at_49 o_52 k_a0 rfl
  replace hG : tG D (mF cI cL cC gC gE gW gA gT gI gS gM K F S N gH gJ_54 ge gk gf gs gg gr RN) t H := hG
  have hp_51 : gJ_54 = gH := hp_51
  have p_55 := hp_51
  refine lv_ldc2 hx hb hown (hts (.constantLong RX10 236 (-1)) (List.mem_of_getElem? (i := 5) rfl)) dX10_peakBy_4 ?_
  refine lv_lstore (lv' := [(4, .long (-1)), (0, .ref a0), (1, .int a1), (2, .int a2), (3, .int a3)]) hx hb dX10_peakBy_7 hl (by decide) rfl (fun ls hl => ?_)
  refine lv_iconst (v := 0) hx hb dX10_peakBy_9 (by decide) ?_
  refine lv_istore (lv' := [(6, .int 0), (4, .long (-1)), (0, .ref a0), (1, .int a1), (2, .int a2), (3, .int a3)]) hx hb dX10_peakBy_10 hl (by decide) rfl (fun ls hl => ?_)
  refine lv_pc (pc2 := 12) rfl ?_
  refine lp_gen (fun WW56 hWW56 => ?_)
  have kx56 : ∀ (yi : Int32) (ym : Int64) (hm : Int) (H1 : Heap) (locs1 : List Loc) (ls1 : Array Slot), (0 ≤ yi.toInt) → (yi.toInt ≤ a2.toInt) → (hm = gH + yi.toInt) → tG D (mF cI cL cC gC gE gW gA gT gI gS gM K F S N hm gJ_54 ge gk gf gs gg gr RN) t H1 → tF t wmj s.heap H1 locs1 → lv_has ls1 9 [(6, .int yi), (4, .long ym), (0, .ref a0), (1, .int a1), (2, .int a2), (3, .int a3)] → WW56 H1 locs1 (F0 m 106 ls1 []) := by
    intro yi ym hm H locs ls v56_0 v56_1 v56_2 hG hS hl
    refine (hWW56 _ _ _).mpr ?_
    refine lv_aload_n hx hb dX10_peakBy_106 rfl (lv_at hl 2 rfl) ?_
    refine lv_pc (pc2 := 107) rfl ?_
    obtain ⟨r_57, v_59, r_60, r_62, r_64, r_66, r_68, r_70, r_72, r_74, r_76, r_78, r_80, r_82, r_84, r_86, r_88, r_90, r_92, r_94, r_96, r_98, r_100, v_102, r_103, at_105, h_58, h_61, h_63, h_65, h_67, h_69, h_71, h_73, h_75, h_77, h_79, h_81, h_83, h_85, h_87, h_89, h_91, h_93, h_95, h_97, h_99, h_101, h_104⟩ := mF_o40 hG k_a0
    refine tx_callv (W.runV (As := []) (rest := []) ⟨hx, hb, hml, hown, hts⟩ (m_X10_returns l D t cI cL cC gC gE gW gA gT gI gS gM K F S N hm gJ_54 ge gk gf gs gg gr RN a0  uq  k_a0) (cwV 0 hts gu_X10_peakBy_X10_returns_277 rfl rfl rfl (by decide +kernel) ⟨Nat.le_of_ble_eq_true rfl, Nat.le_of_ble_eq_true rfl⟩) (tP_V hG hE at_105 rfl) rfl rfl hl.1 rfl (lv_room (Nat.le_of_ble_eq_true rfl)) dX10_peakBy_107 ⟨Nat.le_of_ble_eq_true rfl, Nat.le_of_ble_eq_true rfl⟩) hS (wrL_sub (by decide)) (fun gH_110 H locs hp_107 hG hS o_108 => ?_)
    have at_105 := va_at.keptC at_105 o_108 k_a0 rfl
    replace hG : tG D (mF cI cL cC gC gE gW gA gT gI gS gM K F S N gH_110 gJ_54 ge gk gf gs gg gr RN) t H := hG
    have hp_107 : gH_110 = gJ_54 := hp_107
    have p_111 := hp_107
    refine lv_lload hx hb dX10_peakBy_110 (lv_at hl 1 rfl) ?_
    exact tx_lret (z := (gH_110, gJ_54)) hx hb hr hlk hG hS (by show gH_110 = gH; omega) dX10_peakBy_112
  have lp56 : ∀ (kk56 : Nat) (yi : Int32) (ym : Int64) (hm : Int) (H1 : Heap) (locs1 : List Loc) (ls1 : Array Slot), a2.toInt - yi.toInt ≤ (kk56 : Int) → (0 ≤ yi.toInt) → (yi.toInt ≤ a2.toInt) → (hm = gH + yi.toInt) → tG D (mF cI cL cC gC gE gW gA gT gI gS gM K F S N hm gJ_54 ge gk gf gs gg gr RN) t H1 → tF t wmj s.heap H1 locs1 → lv_has ls1 9 [(6, .int yi), (4, .long ym), (0, .ref a0), (1, .int a1), (2, .int a2), (3, .int a3)] → WW56 H1 locs1 (F0 m 12 ls1 []) := by
    intro kk56
    induction kk56 with
    | zero =>
      intro yi ym hm H locs ls hk56 v56_0 v56_1 v56_2 hG hS hl
      refine (hWW56 _ _ _).mpr ?_
      refine lv_iload hx hb dX10_peakBy_12 (lv_at hl 0 rfl) ?_
      refine lv_iload_n hx hb dX10_peakBy_14 rfl (lv_at hl 4 rfl) ?_
      refine lv_icmp_ge (tgt := 106) hx hb dX10_peakBy_15 (by decide) (fun c_112 => ?_) (fun c_112 => ?_)
      · skip
        have c_112 : a2.toInt ≤ yi.toInt := q_le c_112
        exact (hWW56 _ _ _).mp (kx56 yi ym hm H locs ls v56_0 v56_1 v56_2 hG hS (lv_sub hl [0, 1, 2, 3, 4, 5] rfl))
      · skip
        have c_112 : yi.toInt < a2.toInt := q_nle c_112
        exfalso; omega
    | succ kk56 ih56 =>
      intro yi ym hm H locs ls hk56 v56_0 v56_1 v56_2 hG hS hl
      refine (hWW56 _ _ _).mpr ?_
      refine lv_iload hx hb dX10_peakBy_12 (lv_at hl 0 rfl) ?_
      refine lv_iload_n hx hb dX10_peakBy_14 rfl (lv_at hl 4 rfl) ?_
      refine lv_pc (pc2 := 15) rfl ?_
      refine lv_icmp_ge (tgt := 106) hx hb dX10_peakBy_15 (by decide) (fun c_113 => ?_) (fun c_113 => ?_)
      · skip
        have c_113 : a2.toInt ≤ yi.toInt := q_le c_113
        exact (hWW56 _ _ _).mp (kx56 yi ym hm H locs ls v56_0 v56_1 v56_2 hG hS (lv_sub hl [0, 1, 2, 3, 4, 5] rfl))
      · skip
        have c_113 : yi.toInt < a2.toInt := q_nle c_113
        refine lv_aload_n hx hb dX10_peakBy_18 rfl (lv_at hl 2 rfl) ?_
        obtain ⟨r_114, v_116, r_117, r_119, r_121, r_123, r_125, r_127, r_129, r_131, r_133, r_135, r_137, r_139, r_141, r_143, r_145, r_147, r_149, r_151, r_153, r_155, r_157, v_159, r_160, at_162, h_115, h_118, h_120, h_122, h_124, h_126, h_128, h_130, h_132, h_134, h_136, h_138, h_140, h_142, h_144, h_146, h_148, h_150, h_152, h_154, h_156, h_158, h_161⟩ := mF_o40 hG k_a0
        refine va_get (D := D) (ci := 9) (v := .ref r_127) (C := RX10) (T := TX10) (N := 36) hx hb hts in10 hown hK (va_one at_162) 0 rfl rfl 10 (by decide) (hts (.fieldLink RX10 28 "RiverModelModel" "m" "[J") (List.mem_of_getElem? (i := 9) rfl)) (fun _ h9 => h9) rfl dX10_peakBy_19 ?_
        refine lv_sipush (v := 231) hx hb dX10_peakBy_22 (by decide) ?_
        obtain ⟨f_163, at_164, h_165⟩ := mF_o47 hG h_128
        have b_166 : vp_in 231 280 := (q_in (by decide) (by decide))
        refine va_lald hx hb hK (va_one at_164) 0 1 rfl rfl b_166 dX10_peakBy_25 ?_
        refine lv_topl (fun z_167 e_168 => ?_)
        have i_z_167 : z_167.toInt = hm := by rw [e_168]; exact gHr_ld h_165 (by decide)
        refine lv_l2i (v := z_167.toInt32) hx hb dX10_peakBy_26 rfl ?_
        refine lv_topi (fun x_169 e_170 => ?_)
        have i_x_169 : x_169.toInt = z_167.toInt := by rw [e_170]; exact q_l2i (by omega) (by omega)
        refine lv_istore (lv' := [(7, .int x_169), (6, .int yi), (4, .long ym), (0, .ref a0), (1, .int a1), (2, .int a2), (3, .int a3)]) hx hb dX10_peakBy_27 hl (by decide) rfl (fun ls hl => ?_)
        refine lv_iload_n hx hb dX10_peakBy_29 rfl (lv_at hl 6 rfl) ?_
        refine lv_pc (pc2 := 30) rfl ?_
        refine lv_if_ge (tgt := 45) hx hb dX10_peakBy_30 (by decide) (fun c_171 => ?_) (fun c_171 => ?_)
        · skip
          have c_171 : 0 ≤ a3.toInt := q_le c_171
          refine lv_aload_n hx hb dX10_peakBy_45 rfl (lv_at hl 3 rfl) ?_
          refine va_get (D := D) (ci := 9) (v := .ref r_151) (C := RX10) (T := TX10) (N := 36) hx hb hts in10 hown hK (va_one at_162) 0 rfl rfl 24 (by decide) (hts (.fieldLink RX10 65 "RiverModelModel" "ahead" "[I") (List.mem_of_getElem? (i := 10) rfl)) (fun _ h9 => h9) rfl dX10_peakBy_46 ?_
          refine lv_bipush (v := 24) hx hb dX10_peakBy_49 (by decide) ?_
          refine lv_iload_n hx hb dX10_peakBy_51 rfl (lv_at hl 6 rfl) ?_
          refine lv_imul hx hb dX10_peakBy_52 ?_
          refine lv_topi (fun x_172 e_173 => ?_)
          have i_x_172 : x_172.toInt = 24 * a3.toInt := by rw [e_173]; exact (q_mul (by rw [show (24 : Int32).toInt = 24 by decide]; omega) (by rw [show (24 : Int32).toInt = 24 by decide]; omega)).trans (by rw [show (24 : Int32).toInt = 24 by decide])
          refine lv_iload hx hb dX10_peakBy_53 (lv_at hl 1 rfl) ?_
          refine lv_iadd hx hb dX10_peakBy_55 ?_
          refine lv_topi (fun x_174 e_175 => ?_)
          have i_x_174 : x_174.toInt = x_172.toInt + yi.toInt := by rw [e_175]; exact (q_add (by omega) (by omega)).trans (by rfl)
          refine lv_pc (pc2 := 56) rfl ?_
          have at_176 := mF_o59 hG h_152
          have b_177 : vp_in x_174 96 := (q_in (by omega) (by omega))
          refine va_iald hx hb hK (va_one at_176) 0 0 rfl rfl b_177 dX10_peakBy_56 ?_
          refine lv_topi (fun x_178 e_179 => ?_)
          have w_x_178 : x_178 = gA (x_174.toInt).toNat := by rw [e_179]; exact congrArg (fun q : Int => gA q.toNat) (show x_174.toInt = x_174.toInt by omega)
          have i_x_178 : x_178.toInt = (gA (x_174.toInt).toNat).toInt := by rw [w_x_178]
          refine lv_istore (lv' := [(8, .int x_178), (7, .int x_169), (6, .int yi), (4, .long ym), (0, .ref a0), (1, .int a1), (2, .int a2), (3, .int a3)]) hx hb dX10_peakBy_57 hl (by decide) rfl (fun ls hl => ?_)
          refine lv_aload_n hx hb dX10_peakBy_59 rfl (lv_at hl 4 rfl) ?_
          refine lv_iconst (v := 0) hx hb dX10_peakBy_60 (by decide) ?_
          refine lv_iload hx hb dX10_peakBy_61 (lv_at hl 0 rfl) ?_
          refine lv_aload_n hx hb dX10_peakBy_63 rfl (lv_at hl 4 rfl) ?_
          refine va_get (D := D) (ci := 9) (v := .ref r_125) (C := RX10) (T := TX10) (N := 36) hx hb hts in10 hown hK (va_one at_162) 0 rfl rfl 9 (by decide) (hts (.fieldLink RX10 25 "RiverModelModel" "weather" "[I") (List.mem_of_getElem? (i := 11) rfl)) (fun _ h9 => h9) rfl dX10_peakBy_64 ?_
          refine lv_iconst (v := 2) hx hb dX10_peakBy_67 (by decide) ?_
          refine lv_pc (pc2 := 68) rfl ?_
          refine lv_iload hx hb dX10_peakBy_68 (lv_at hl 1 rfl) ?_
          refine lv_imul hx hb dX10_peakBy_70 ?_
          refine lv_topi (fun x_180 e_181 => ?_)
          have i_x_180 : x_180.toInt = 2 * x_169.toInt := by rw [e_181]; exact (q_mul (by rw [show (2 : Int32).toInt = 2 by decide]; omega) (by rw [show (2 : Int32).toInt = 2 by decide]; omega)).trans (by rw [show (2 : Int32).toInt = 2 by decide])
          refine lv_iconst (v := 1) hx hb dX10_peakBy_71 (by decide) ?_
          refine lv_iadd hx hb dX10_peakBy_72 ?_
          refine lv_topi (fun x_182 e_183 => ?_)
          have i_x_182 : x_182.toInt = x_180.toInt + 1 := by rw [e_183]; exact (q_add (by rw [show (1 : Int32).toInt = 1 by decide]; omega) (by rw [show (1 : Int32).toInt = 1 by decide]; omega)).trans (by rw [show (1 : Int32).toInt = 1 by decide])
          obtain ⟨f_184, at_185⟩ := mF_o46 hG h_126
          have b_186 : vp_in x_182 384 := (q_in (by omega) (by omega))
          refine va_iald hx hb hK (va_one at_185) 0 0 rfl rfl b_186 dX10_peakBy_73 ?_
          refine lv_topi (fun x_187 e_188 => ?_)
          have zi_0 : (0 : Int32).toInt = 0 := by decide
          refine tx_callv (W.runV (As := [.int 0, .int x_178, .int x_187]) (rest := []) ⟨hx, hb, hml, hown, hts⟩ (m_X10_passes l D t cI cL cC gC gE gW gA gT gI gS gM K F S N hm gJ_54 ge gk gf gs gg gr RN a0 0 x_178 x_187 0 uq (by omega) (by omega) (by omega) (by omega) (by omega) hO0 (by omega) (by omega) k_a0) (cwV 3 hts gu_X10_peakBy_X10_passes_225 rfl rfl rfl (by decide +kernel) ⟨Nat.le_of_ble_eq_true rfl, Nat.le_of_ble_eq_true rfl⟩) (tP_V hG hE at_162 rfl) rfl rfl hl.1 rfl (lv_room (Nat.le_of_ble_eq_true rfl)) dX10_peakBy_74 ⟨Nat.le_of_ble_eq_true rfl, Nat.le_of_ble_eq_true rfl⟩) hS (wrL_sub (by decide)) (fun gH_193 H locs hp_190 hG hS o_191 => ?_)
          have at_162 := va_at.keptC at_162 o_191 k_a0 rfl
          have at_176 := va_at.keptC at_176 o_191 h_152 rfl
          have at_185 := va_at.keptC at_185 o_191 h_126 rfl
          replace hG : tG D (mF cI cL cC gC gE gW gA gT gI gS gM K F S N gH_193 gJ_54 ge gk gf gs gg gr RN) t H := hG
          have hp_190 : gH_193 = hm + 1 := hp_190
          have p_194 := hp_190
          refine lv_aload_n hx hb dX10_peakBy_77 rfl (lv_at hl 4 rfl) ?_
          refine lv_iload_n hx hb dX10_peakBy_78 rfl (lv_at hl 5 rfl) ?_
          refine lv_pc (pc2 := 79) rfl ?_
          refine ty_calll (W.runV (As := [.int a1]) (rest := []) ⟨hx, hb, hml, hown, hts⟩ (m_X10_reading l D t cI cL cC gC gE gW gA gT gI gS gM K F S N gH_193 gJ_54 ge gk gf gs gg gr RN a0 a1  uq (by omega) (by omega) k_a0) (cwV 1 hts gu_X10_peakBy_X10_reading_251 rfl rfl rfl (by decide +kernel) ⟨Nat.le_of_ble_eq_true rfl, Nat.le_of_ble_eq_true rfl⟩) (tP_V hG hE at_162 rfl) rfl rfl hl.1 rfl (lv_room (Nat.le_of_ble_eq_true rfl)) dX10_peakBy_79 ⟨Nat.le_of_ble_eq_true rfl, Nat.le_of_ble_eq_true rfl⟩) hS (fun k h => by simp [wr0] at h) (fun z_195 H locs hp_196 hG hS o_197 => ?_)
          have at_162 := va_at.keptC at_162 o_197 k_a0 rfl
          have at_176 := va_at.keptC at_176 o_197 h_152 rfl
          have at_185 := va_at.keptC at_185 o_197 h_126 rfl
          refine lv_lload hx hb dX10_peakBy_82 (lv_at hl 3 rfl) ?_
          refine W.lcmp hx hb dX10_peakBy_84 ?_
          refine lv_if_le (tgt := 96) hx hb dX10_peakBy_85 (by decide) (fun c_199 => ?_) (fun c_199 => ?_)
          · skip
            have c_199 : z_195.toInt ≤ ym.toInt := q_cmp_le c_199
            refine lv_lload hx hb dX10_peakBy_96 (lv_at hl 3 rfl) ?_
            refine lv_lstore (lv' := [(4, .long ym), (8, .int x_178), (7, .int x_169), (6, .int yi), (0, .ref a0), (1, .int a1), (2, .int a2), (3, .int a3)]) hx hb dX10_peakBy_98 hl (by decide) rfl (fun ls hl => ?_)
            obtain ⟨x_200, e_201⟩ : ∃ y : Int32, y = yi + Int32.ofInt 1 := ⟨_, rfl⟩
            have i_x_200 : x_200.toInt = yi.toInt + 1 := by rw [e_201, show Int32.ofInt 1 = 1 by decide]; exact (q_add (by rw [show (1 : Int32).toInt = 1 by decide]; omega) (by rw [show (1 : Int32).toInt = 1 by decide]; omega)).trans (by rw [show (1 : Int32).toInt = 1 by decide])
            refine lv_iinc (v := x_200) (lv' := [(6, .int x_200), (4, .long ym), (8, .int x_178), (7, .int x_169), (0, .ref a0), (1, .int a1), (2, .int a2), (3, .int a3)]) hx hb dX10_peakBy_100 hl (k := 3) rfl e_201.symm (by decide) rfl (fun ls hl => ?_)
            refine lv_goto (tgt := 12) hx hb dX10_peakBy_103 (by decide) ?_
            exact (hWW56 _ _ _).mp (ih56 x_200 ym gH_193 H locs ls (by omega) (by omega) (by omega) (by omega) hG hS (lv_sub hl [0, 1, 4, 5, 6, 7] rfl))
          · skip
            have c_199 : ym.toInt < z_195.toInt := q_cmp_nle c_199
            refine lv_pc (pc2 := 88) rfl ?_
            refine lv_aload_n hx hb dX10_peakBy_88 rfl (lv_at hl 4 rfl) ?_
            refine lv_iload_n hx hb dX10_peakBy_89 rfl (lv_at hl 5 rfl) ?_
            refine ty_calll (W.runV (As := [.int a1]) (rest := []) ⟨hx, hb, hml, hown, hts⟩ (m_X10_reading l D t cI cL cC gC gE gW gA gT gI gS gM K F S N gH_193 gJ_54 ge gk gf gs gg gr RN a0 a1  uq (by omega) (by omega) k_a0) (cwV 1 hts gu_X10_peakBy_X10_reading_251 rfl rfl rfl (by decide +kernel) ⟨Nat.le_of_ble_eq_true rfl, Nat.le_of_ble_eq_true rfl⟩) (tP_V hG hE at_162 rfl) rfl rfl hl.1 rfl (lv_room (Nat.le_of_ble_eq_true rfl)) dX10_peakBy_90 ⟨Nat.le_of_ble_eq_true rfl, Nat.le_of_ble_eq_true rfl⟩) hS (fun k h => by simp [wr0] at h) (fun z_202 H locs hp_203 hG hS o_204 => ?_)
            have at_162 := va_at.keptC at_162 o_204 k_a0 rfl
            have at_176 := va_at.keptC at_176 o_204 h_152 rfl
            have at_185 := va_at.keptC at_185 o_204 h_126 rfl
            refine lv_goto (tgt := 98) hx hb dX10_peakBy_93 (by decide) ?_
            refine lv_lstore (lv' := [(4, .long z_202), (8, .int x_178), (7, .int x_169), (6, .int yi), (0, .ref a0), (1, .int a1), (2, .int a2), (3, .int a3)]) hx hb dX10_peakBy_98 hl (by decide) rfl (fun ls hl => ?_)
            obtain ⟨x_206, e_207⟩ : ∃ y : Int32, y = yi + Int32.ofInt 1 := ⟨_, rfl⟩
            have i_x_206 : x_206.toInt = yi.toInt + 1 := by rw [e_207, show Int32.ofInt 1 = 1 by decide]; exact (q_add (by rw [show (1 : Int32).toInt = 1 by decide]; omega) (by rw [show (1 : Int32).toInt = 1 by decide]; omega)).trans (by rw [show (1 : Int32).toInt = 1 by decide])
            refine lv_iinc (v := x_206) (lv' := [(6, .int x_206), (4, .long z_202), (8, .int x_178), (7, .int x_169), (0, .ref a0), (1, .int a1), (2, .int a2), (3, .int a3)]) hx hb dX10_peakBy_100 hl (k := 3) rfl e_207.symm (by decide) rfl (fun ls hl => ?_)
            refine lv_goto (tgt := 12) hx hb dX10_peakBy_103 (by decide) ?_
            exact (hWW56 _ _ _).mp (ih56 x_206 z_202 gH_193 H locs ls (by omega) (by omega) (by omega) (by omega) hG hS (lv_sub hl [0, 1, 4, 5, 6, 7] rfl))
        · skip
          have c_171 : a3.toInt < 0 := q_nle c_171
          refine lv_aload_n hx hb dX10_peakBy_33 rfl (lv_at hl 3 rfl) ?_
          refine lv_pc (pc2 := 34) rfl ?_
          refine va_get (D := D) (ci := 9) (v := .ref r_125) (C := RX10) (T := TX10) (N := 36) hx hb hts in10 hown hK (va_one at_162) 0 rfl rfl 9 (by decide) (hts (.fieldLink RX10 25 "RiverModelModel" "weather" "[I") (List.mem_of_getElem? (i := 11) rfl)) (fun _ h9 => h9) rfl dX10_peakBy_34 ?_
          refine lv_iconst (v := 2) hx hb dX10_peakBy_37 (by decide) ?_
          refine lv_iload hx hb dX10_peakBy_38 (lv_at hl 0 rfl) ?_
          refine lv_imul hx hb dX10_peakBy_40 ?_
          refine lv_topi (fun x_208 e_209 => ?_)
          have i_x_208 : x_208.toInt = 2 * x_169.toInt := by rw [e_209]; exact (q_mul (by rw [show (2 : Int32).toInt = 2 by decide]; omega) (by rw [show (2 : Int32).toInt = 2 by decide]; omega)).trans (by rw [show (2 : Int32).toInt = 2 by decide])
          obtain ⟨f_210, at_211⟩ := mF_o46 hG h_126
          have b_212 : vp_in x_208 384 := (q_in (by omega) (by omega))
          refine va_iald hx hb hK (va_one at_211) 0 0 rfl rfl b_212 dX10_peakBy_41 ?_
          refine lv_topi (fun x_213 e_214 => ?_)
          refine lv_goto (tgt := 57) hx hb dX10_peakBy_42 (by decide) ?_
          refine lv_istore (lv' := [(8, .int x_213), (7, .int x_169), (6, .int yi), (4, .long ym), (0, .ref a0), (1, .int a1), (2, .int a2), (3, .int a3)]) hx hb dX10_peakBy_57 hl (by decide) rfl (fun ls hl => ?_)
          refine lv_aload_n hx hb dX10_peakBy_59 rfl (lv_at hl 4 rfl) ?_
          refine lv_pc (pc2 := 60) rfl ?_
          refine lv_iconst (v := 0) hx hb dX10_peakBy_60 (by decide) ?_
          refine lv_iload hx hb dX10_peakBy_61 (lv_at hl 0 rfl) ?_
          refine lv_aload_n hx hb dX10_peakBy_63 rfl (lv_at hl 4 rfl) ?_
          refine va_get (D := D) (ci := 9) (v := .ref r_125) (C := RX10) (T := TX10) (N := 36) hx hb hts in10 hown hK (va_one at_162) 0 rfl rfl 9 (by decide) (hts (.fieldLink RX10 25 "RiverModelModel" "weather" "[I") (List.mem_of_getElem? (i := 11) rfl)) (fun _ h9 => h9) rfl dX10_peakBy_64 ?_
          refine lv_iconst (v := 2) hx hb dX10_peakBy_67 (by decide) ?_
          refine lv_iload hx hb dX10_peakBy_68 (lv_at hl 1 rfl) ?_
          refine lv_imul hx hb dX10_peakBy_70 ?_
          refine lv_topi (fun x_215 e_216 => ?_)
          have i_x_215 : x_215.toInt = 2 * x_169.toInt := by rw [e_216]; exact (q_mul (by rw [show (2 : Int32).toInt = 2 by decide]; omega) (by rw [show (2 : Int32).toInt = 2 by decide]; omega)).trans (by rw [show (2 : Int32).toInt = 2 by decide])
          refine lv_iconst (v := 1) hx hb dX10_peakBy_71 (by decide) ?_
          refine lv_pc (pc2 := 72) rfl ?_
          refine lv_iadd hx hb dX10_peakBy_72 ?_
          refine lv_topi (fun x_217 e_218 => ?_)
          have i_x_217 : x_217.toInt = x_215.toInt + 1 := by rw [e_218]; exact (q_add (by rw [show (1 : Int32).toInt = 1 by decide]; omega) (by rw [show (1 : Int32).toInt = 1 by decide]; omega)).trans (by rw [show (1 : Int32).toInt = 1 by decide])
          have b_219 : vp_in x_217 384 := (q_in (by omega) (by omega))
          refine va_iald hx hb hK (va_one at_211) 0 0 rfl rfl b_219 dX10_peakBy_73 ?_
          refine lv_topi (fun x_220 e_221 => ?_)
          have zi_0 : (0 : Int32).toInt = 0 := by decide
          refine tx_callv (W.runV (As := [.int 0, .int x_213, .int x_220]) (rest := []) ⟨hx, hb, hml, hown, hts⟩ (m_X10_passes l D t cI cL cC gC gE gW gA gT gI gS gM K F S N hm gJ_54 ge gk gf gs gg gr RN a0 0 x_213 x_220 0 uq (by omega) (by omega) (by omega) (by omega) (by omega) hO0 (by omega) (by omega) k_a0) (cwV 3 hts gu_X10_peakBy_X10_passes_225 rfl rfl rfl (by decide +kernel) ⟨Nat.le_of_ble_eq_true rfl, Nat.le_of_ble_eq_true rfl⟩) (tP_V hG hE at_162 rfl) rfl rfl hl.1 rfl (lv_room (Nat.le_of_ble_eq_true rfl)) dX10_peakBy_74 ⟨Nat.le_of_ble_eq_true rfl, Nat.le_of_ble_eq_true rfl⟩) hS (wrL_sub (by decide)) (fun gH_226 H locs hp_223 hG hS o_224 => ?_)
          have at_162 := va_at.keptC at_162 o_224 k_a0 rfl
          have at_211 := va_at.keptC at_211 o_224 h_126 rfl
          replace hG : tG D (mF cI cL cC gC gE gW gA gT gI gS gM K F S N gH_226 gJ_54 ge gk gf gs gg gr RN) t H := hG
          have hp_223 : gH_226 = hm + 1 := hp_223
          have p_227 := hp_223
          refine lv_aload_n hx hb dX10_peakBy_77 rfl (lv_at hl 4 rfl) ?_
          refine lv_iload_n hx hb dX10_peakBy_78 rfl (lv_at hl 5 rfl) ?_
          refine ty_calll (W.runV (As := [.int a1]) (rest := []) ⟨hx, hb, hml, hown, hts⟩ (m_X10_reading l D t cI cL cC gC gE gW gA gT gI gS gM K F S N gH_226 gJ_54 ge gk gf gs gg gr RN a0 a1  uq (by omega) (by omega) k_a0) (cwV 1 hts gu_X10_peakBy_X10_reading_251 rfl rfl rfl (by decide +kernel) ⟨Nat.le_of_ble_eq_true rfl, Nat.le_of_ble_eq_true rfl⟩) (tP_V hG hE at_162 rfl) rfl rfl hl.1 rfl (lv_room (Nat.le_of_ble_eq_true rfl)) dX10_peakBy_79 ⟨Nat.le_of_ble_eq_true rfl, Nat.le_of_ble_eq_true rfl⟩) hS (fun k h => by simp [wr0] at h) (fun z_228 H locs hp_229 hG hS o_230 => ?_)
          have at_162 := va_at.keptC at_162 o_230 k_a0 rfl
          have at_211 := va_at.keptC at_211 o_230 h_126 rfl
          refine lv_lload hx hb dX10_peakBy_82 (lv_at hl 3 rfl) ?_
          refine W.lcmp hx hb dX10_peakBy_84 ?_
          refine lv_pc (pc2 := 85) rfl ?_
          refine lv_if_le (tgt := 96) hx hb dX10_peakBy_85 (by decide) (fun c_232 => ?_) (fun c_232 => ?_)
          · skip
            have c_232 : z_228.toInt ≤ ym.toInt := q_cmp_le c_232
            refine lv_lload hx hb dX10_peakBy_96 (lv_at hl 3 rfl) ?_
            refine lv_lstore (lv' := [(4, .long ym), (8, .int x_213), (7, .int x_169), (6, .int yi), (0, .ref a0), (1, .int a1), (2, .int a2), (3, .int a3)]) hx hb dX10_peakBy_98 hl (by decide) rfl (fun ls hl => ?_)
            obtain ⟨x_233, e_234⟩ : ∃ y : Int32, y = yi + Int32.ofInt 1 := ⟨_, rfl⟩
            have i_x_233 : x_233.toInt = yi.toInt + 1 := by rw [e_234, show Int32.ofInt 1 = 1 by decide]; exact (q_add (by rw [show (1 : Int32).toInt = 1 by decide]; omega) (by rw [show (1 : Int32).toInt = 1 by decide]; omega)).trans (by rw [show (1 : Int32).toInt = 1 by decide])
            refine lv_iinc (v := x_233) (lv' := [(6, .int x_233), (4, .long ym), (8, .int x_213), (7, .int x_169), (0, .ref a0), (1, .int a1), (2, .int a2), (3, .int a3)]) hx hb dX10_peakBy_100 hl (k := 3) rfl e_234.symm (by decide) rfl (fun ls hl => ?_)
            refine lv_goto (tgt := 12) hx hb dX10_peakBy_103 (by decide) ?_
            exact (hWW56 _ _ _).mp (ih56 x_233 ym gH_226 H locs ls (by omega) (by omega) (by omega) (by omega) hG hS (lv_sub hl [0, 1, 4, 5, 6, 7] rfl))
          · skip
            have c_232 : ym.toInt < z_228.toInt := q_cmp_nle c_232
            refine lv_aload_n hx hb dX10_peakBy_88 rfl (lv_at hl 4 rfl) ?_
            refine lv_iload_n hx hb dX10_peakBy_89 rfl (lv_at hl 5 rfl) ?_
            refine ty_calll (W.runV (As := [.int a1]) (rest := []) ⟨hx, hb, hml, hown, hts⟩ (m_X10_reading l D t cI cL cC gC gE gW gA gT gI gS gM K F S N gH_226 gJ_54 ge gk gf gs gg gr RN a0 a1  uq (by omega) (by omega) k_a0) (cwV 1 hts gu_X10_peakBy_X10_reading_251 rfl rfl rfl (by decide +kernel) ⟨Nat.le_of_ble_eq_true rfl, Nat.le_of_ble_eq_true rfl⟩) (tP_V hG hE at_162 rfl) rfl rfl hl.1 rfl (lv_room (Nat.le_of_ble_eq_true rfl)) dX10_peakBy_90 ⟨Nat.le_of_ble_eq_true rfl, Nat.le_of_ble_eq_true rfl⟩) hS (fun k h => by simp [wr0] at h) (fun z_235 H locs hp_236 hG hS o_237 => ?_)
            have at_162 := va_at.keptC at_162 o_237 k_a0 rfl
            have at_211 := va_at.keptC at_211 o_237 h_126 rfl
            refine lv_pc (pc2 := 93) rfl ?_
            refine lv_goto (tgt := 98) hx hb dX10_peakBy_93 (by decide) ?_
            refine lv_lstore (lv' := [(4, .long z_235), (8, .int x_213), (7, .int x_169), (6, .int yi), (0, .ref a0), (1, .int a1), (2, .int a2), (3, .int a3)]) hx hb dX10_peakBy_98 hl (by decide) rfl (fun ls hl => ?_)
            obtain ⟨x_239, e_240⟩ : ∃ y : Int32, y = yi + Int32.ofInt 1 := ⟨_, rfl⟩
            have i_x_239 : x_239.toInt = yi.toInt + 1 := by rw [e_240, show Int32.ofInt 1 = 1 by decide]; exact (q_add (by rw [show (1 : Int32).toInt = 1 by decide]; omega) (by rw [show (1 : Int32).toInt = 1 by decide]; omega)).trans (by rw [show (1 : Int32).toInt = 1 by decide])
            refine lv_iinc (v := x_239) (lv' := [(6, .int x_239), (4, .long z_235), (8, .int x_213), (7, .int x_169), (0, .ref a0), (1, .int a1), (2, .int a2), (3, .int a3)]) hx hb dX10_peakBy_100 hl (k := 3) rfl e_240.symm (by decide) rfl (fun ls hl => ?_)
            refine lv_goto (tgt := 12) hx hb dX10_peakBy_103 (by decide) ?_
            exact (hWW56 _ _ _).mp (ih56 x_239 z_235 gH_226 H locs ls (by omega) (by omega) (by omega) (by omega) hG hS (lv_sub hl [0, 1, 4, 5, 6, 7] rfl))
  have zi_0 : (0 : Int32).toInt = 0 := by decide
  have zl_m1 : ((-1) : Int64).toInt = (-1) := by decide
  exact lp56 (a2.toInt - (0 : Int32).toInt : Int).toNat 0 (-1) gH H locs ls (by omega) (by omega) (by omega) (by omega) hG hS (lv_sub hl [0, 1, 2, 3, 4, 5] rfl)

def uX10_canSee : List Cond := .code yX10_canSee cX10_canSee 3 (some .boolean) :: ([.methodLink RX10 248 yX10_isSet, .instanceMethod yX10_isSet, .selects RX10 yX10_isSet yX10_isSet, .initialized RX10, .fieldLink RX10 28 "RiverModelModel" "m" "[J", .constantLong RX10 229 (96), .code yX10_isSet cX10_isSet 2 (some .boolean), .fieldLink RX10 173 "RiverModelModel" "isBuilt" "Z", .fieldLink RX10 38 "RiverModelModel" "gaugeKind" "[I"] ++ wsX100)
set_option maxRecDepth 20000 in
theorem gu_X10_canSee_X10_isSet_248 : GoodIn uX10_canSee (wsV RX10 248 RX10 yX10_isSet uX10_isSet) := goodIn_r _ [1, 2, 3, 4, 7, 8, 9, 10, 11, 12, 13, 14, 15, 16, 17, 18, 19, 20, 21, 22, 23, 24, 25, 26, 27, 28, 29, 30, 31, 32, 33, 34, 35, 36, 37, 38, 39, 40, 41, 42, 43, 44, 45] rfl (by decide +kernel)
set_option maxHeartbeats 4000000 in
set_option maxRecDepth 100000 in
theorem m_X10_canSee (l : Launch) (D : va_G) (t : Nat → Nat) (cI cL cC : ClassId) (gC : Int32) (gE : Int32) (gW : Nat → Int32) (gA : Nat → Int32) (gT : Nat → Int32) (gI : Int32) (gS : Int32) (gM : Int32) (K : Nat → Int32) (F : Nat → Int32) (S : Nat → Int32) (N : Nat → Int32) (gH : Int) (gJ : Int) (ge : Int32) (gk : Int32) (gf : Int32) (gs : Int32) (gg : Int32) (gr : Int32) (RN : Nat → Int32) (a0 : Nat) (a1 : Int32) (a2 : Int32) (uq : ∀ b c : Nat, t b = t c → t b ≠ 0 → b = c) (hg0 : 0 ≤ a1.toInt) (hg3 : a1.toInt ≤ 3) (hH0 : 0 ≤ gH) (hH9 : gH ≤ 96) (hn0 : 0 ≤ a2.toInt) (hn4 : a2.toInt ≤ 24) (k_a0 : t a0 = 40) : tM l yX10_canSee uX10_canSee 1 21 D (mF cI cL cC gC gE gW gA gT gI gS gM K F S N gH gJ ge gk gf gs gg gr RN) (mF cI cL cC gC gE gW gA gT gI gS gM K F S N gH gJ ge gk gf gs gg gr RN) t cI cL cC [.ref a0, .int a1, .int a2] wr0 (pI (fun r => (r = 1 ∧ gH + a2.toInt ≤ 96) ∨ (r = 0))) := by
  refine tM.ofW (cc := cX10_canSee) (maxL := 3) (ret := (some .boolean)) (by decide) rfl (Nat.le_of_ble_eq_true rfl) ?_
  intro p e s m below meth c hx hb hr hml hown hts hlk H locs hG hK hE hS ls hl
  have hl : lv_has ls 3 [(0, .ref a0), (1, .int a1), (2, .int a2)] := hl
  have in10 : ∀ w ∈ wsX100, w ∈ uX10_canSee := fun w h => List.mem_cons_of_mem _ (List.mem_append_right _ h)
  refine lv_aload_n hx hb dX10_canSee_0 rfl (lv_at hl 0 rfl) ?_
  refine lv_iload_n hx hb dX10_canSee_1 rfl (lv_at hl 1 rfl) ?_
  obtain ⟨r_1, v_3, r_4, r_6, r_8, r_10, r_12, r_14, r_16, r_18, r_20, r_22, r_24, r_26, r_28, r_30, r_32, r_34, r_36, r_38, r_40, r_42, r_44, v_46, r_47, at_49, h_2, h_5, h_7, h_9, h_11, h_13, h_15, h_17, h_19, h_21, h_23, h_25, h_27, h_29, h_31, h_33, h_35, h_37, h_39, h_41, h_43, h_45, h_48⟩ := mF_o40 hG k_a0
  refine ty_calli (W.runV (As := [.int a1]) (rest := []) ⟨hx, hb, hml, hown, hts⟩ (m_X10_isSet l D t cI cL cC gC gE gW gA gT gI gS gM K F S N gH gJ ge gk gf gs gg gr RN a0 a1  uq (by omega) (by omega) k_a0) (cwV 1 hts gu_X10_canSee_X10_isSet_248 rfl rfl rfl (by decide +kernel) ⟨Nat.le_of_ble_eq_true rfl, Nat.le_of_ble_eq_true rfl⟩) (tP_V hG hE at_49 rfl) rfl rfl hl.1 rfl (lv_room (Nat.le_of_ble_eq_true rfl)) dX10_canSee_2 ⟨Nat.le_of_ble_eq_true rfl, Nat.le_of_ble_eq_true rfl⟩) hS (fun _ h => h) (fun r_50 H locs hp_51 hG hS o_52 => ?_)
  have at_49 := va_at.keptC at_49 o_52 k_a0 rfl
  have hp_51 : (r_50 = 1) ∨ (r_50 = 0) := hp_51
  rcases hp_51 with rfl | rfl
  · skip
    refine lv_if_eq (tgt := 30) hx hb dX10_canSee_5 (by decide) (fun q => absurd q (by decide)) (fun _ => ?_)
    refine lv_aload_n hx hb dX10_canSee_8 rfl (lv_at hl 0 rfl) ?_
    refine va_get (D := D) (ci := 9) (v := .ref r_14) (C := RX10) (T := TX10) (N := 36) hx hb hts in10 hown hK (va_one at_49) 0 rfl rfl 10 (by decide) (hts (.fieldLink RX10 28 "RiverModelModel" "m" "[J") (List.mem_of_getElem? (i := 5) rfl)) (fun _ h9 => h9) rfl dX10_canSee_9 ?_
    refine lv_sipush (v := 231) hx hb dX10_canSee_12 (by decide) ?_
    refine lv_pc (pc2 := 15) rfl ?_
    obtain ⟨f_54, at_55, h_56⟩ := mF_o47 hG h_15
    have b_57 : vp_in 231 280 := (q_in (by decide) (by decide))
    refine va_lald hx hb hK (va_one at_55) 0 1 rfl rfl b_57 dX10_canSee_15 ?_
    refine lv_topl (fun z_58 e_59 => ?_)
    have i_z_58 : z_58.toInt = gH := by rw [e_59]; exact gHr_ld h_56 (by decide)
    refine lv_iload_n hx hb dX10_canSee_16 rfl (lv_at hl 2 rfl) ?_
    refine lv_i2l (v := a2.toInt64) hx hb dX10_canSee_17 rfl ?_
    refine lv_ladd hx hb dX10_canSee_18 ?_
    refine lv_topl (fun z_60 e_61 => ?_)
    have i_z_60 : z_60.toInt = z_58.toInt + a2.toInt := by rw [e_61]; exact (qL_add (by rw [q_i2l]; omega) (by rw [q_i2l]; omega)).trans (by first | (rw [q_i2l]; done) | (rw [q_i2l]; omega) | omega)
    refine lv_ldc2 hx hb hown (hts (.constantLong RX10 229 (96)) (List.mem_of_getElem? (i := 6) rfl)) dX10_canSee_19 ?_
    refine W.lcmp hx hb dX10_canSee_22 ?_
    refine lv_if_gt (tgt := 30) hx hb dX10_canSee_23 (by decide) (fun c_62 => ?_) (fun c_62 => ?_)
    · skip
      have c_62 : 96 < z_60.toInt := q_cmp_gt c_62
      refine lv_iconst (v := 0) hx hb dX10_canSee_30 (by decide) ?_
      refine lv_pc (pc2 := 31) rfl ?_
      have zi_0 : (0 : Int32).toInt = 0 := by decide
      exact ty_zret hx hb hr hlk rfl hG hS (Or.inr rfl) dX10_canSee_31
    · skip
      have c_62 : z_60.toInt ≤ 96 := q_cmp_ngt c_62
      refine lv_iconst (v := 1) hx hb dX10_canSee_26 (by decide) ?_
      refine lv_goto (tgt := 31) hx hb dX10_canSee_27 (by decide) ?_
      have zi_1 : (1 : Int32).toInt = 1 := by decide
      exact ty_zret hx hb hr hlk rfl hG hS (Or.inl ⟨rfl, (by show gH + a2.toInt ≤ 96; omega)⟩) dX10_canSee_31
  · skip
    refine lv_if_eq (tgt := 30) hx hb dX10_canSee_5 (by decide) (fun _ => ?_) (fun q => absurd (by decide) q)
    refine lv_iconst (v := 0) hx hb dX10_canSee_30 (by decide) ?_
    have zi_0 : (0 : Int32).toInt = 0 := by decide
    exact ty_zret hx hb hr hlk rfl hG hS (Or.inr rfl) dX10_canSee_31

def uX10_chanceOf : List Cond := .code yX10_chanceOf cX10_chanceOf 7 (some .int) :: ([.fieldLink RX10 62 "RiverModelModel" "weight" "[I", .methodLink RX10 291 yX10_peakBy, .instanceMethod yX10_peakBy, .selects RX10 yX10_peakBy yX10_peakBy, .initialized RX10, .code yX10_peakBy cX10_peakBy 9 (some .long), .methodLink RX10 274 yX10_asides, .instanceMethod yX10_asides, .selects RX10 yX10_asides yX10_asides, .constantLong RX10 236 (-1), .methodLink RX10 277 yX10_returns, .instanceMethod yX10_returns, .selects RX10 yX10_returns yX10_returns, .fieldLink RX10 28 "RiverModelModel" "m" "[J", .fieldLink RX10 65 "RiverModelModel" "ahead" "[I", .fieldLink RX10 25 "RiverModelModel" "weather" "[I", .methodLink RX10 225 yX10_passes, .instanceMethod yX10_passes, .selects RX10 yX10_passes yX10_passes, .methodLink RX10 251 yX10_reading, .instanceMethod yX10_reading, .selects RX10 yX10_reading yX10_reading, .code yX10_asides cX10_asides 2 none, .fieldLink RX10 32 "RiverModelModel" "aside" "[J", .code yX10_returns cX10_returns 2 none, .code yX10_passes cX10_passes 12 none, .fieldLink RX10 163 "RiverModelModel" "items" "I", .fieldLink RX10 13 "RiverModelModel" "kind" "[I", .methodLink RX10 221 yX10_moves, .instanceMethod yX10_moves, .selects RX10 yX10_moves yX10_moves, .fieldLink RX10 16 "RiverModelModel" "first" "[I", .fieldLink RX10 19 "RiverModelModel" "second" "[I", .fieldLink RX10 22 "RiverModelModel" "number" "[I", .code yX10_moves cX10_moves 8 (some .long), .constantLong RX10 219 (10), .methodLink RX10 215 yX10_most, .instanceMethod yX10_most, .selects RX10 yX10_most yX10_most, .constantLong RX10 107 (100), .methodLink RX10 211 yX10_capacity, .instanceMethod yX10_capacity, .selects RX10 yX10_capacity yX10_capacity, .code yX10_most cX10_most 4 (some .long), .code yX10_capacity cX10_capacity 3 (some .long), .methodLink RX10 166 yX10_storeAt, .instanceMethod yX10_storeAt, .selects RX10 yX10_storeAt yX10_storeAt, .code yX10_storeAt cX10_storeAt 5 (some .int), .code yX10_reading cX10_reading 2 (some .long), .fieldLink RX10 38 "RiverModelModel" "gaugeKind" "[I", .fieldLink RX10 41 "RiverModelModel" "gaugeAt" "[I"] ++ wsX100)
set_option maxRecDepth 20000 in
theorem gu_X10_chanceOf_X10_peakBy_291 : GoodIn uX10_chanceOf (wsV RX10 291 RX10 yX10_peakBy uX10_peakBy) := goodIn_r _ [2, 3, 4, 5, 6, 7, 8, 9, 5, 10, 11, 12, 13, 14, 15, 16, 17, 18, 19, 20, 21, 22, 23, 24, 25, 26, 27, 28, 29, 30, 31, 32, 33, 34, 35, 36, 37, 38, 39, 40, 41, 42, 43, 44, 45, 46, 47, 48, 49, 50, 51, 52, 53, 54, 55, 56, 57, 58, 59, 60, 61, 62, 63, 64, 65, 66, 67, 68, 69, 70, 71, 72, 73, 74, 75, 76, 77, 78, 79, 80, 81, 82, 83, 84, 85, 86, 87, 88] rfl (by decide +kernel)
set_option maxHeartbeats 4000000 in
set_option maxRecDepth 100000 in
theorem m_X10_chanceOf (l : Launch) (D : va_G) (t : Nat → Nat) (cI cL cC : ClassId) (gC : Int32) (gE : Int32) (gW : Nat → Int32) (gA : Nat → Int32) (gT : Nat → Int32) (gI : Int32) (gS : Int32) (gM : Int32) (K : Nat → Int32) (F : Nat → Int32) (S : Nat → Int32) (N : Nat → Int32) (gH : Int) (gJ : Int) (ge : Int32) (gk : Int32) (gf : Int32) (gs : Int32) (gg : Int32) (gr : Int32) (RN : Nat → Int32) (a0 : Nat) (a1 : Int32) (a2 : Int32) (a3 : Int64) (uq : ∀ b c : Nat, t b = t c → t b ≠ 0 → b = c) (hI0 : 0 ≤ gI.toInt) (hI4 : gI.toInt ≤ 40) (hH0 : 0 ≤ gH) (hH9 : gH ≤ 96) (hO0 : okM K F S N 0 gI.toInt) (hg0 : 0 ≤ a1.toInt) (hg3 : a1.toInt ≤ 3) (hn0 : 0 ≤ a2.toInt) (hn4 : a2.toInt ≤ 24) (hn9 : gH + a2.toInt ≤ 96) (k_a0 : t a0 = 40) : tMx (Z := (Int) × (Int)) l yX10_chanceOf uX10_chanceOf 5 132 D (mF cI cL cC gC gE gW gA gT gI gS gM K F S N gH gJ ge gk gf gs gg gr RN) (fun z => (mF cI cL cC gC gE gW gA gT gI gS gM K F S N z.1 z.2 ge gk gf gs gg gr RN)) t cI cL cC [.ref a0, .int a1, .int a2, .long a3] wmj (xI (fun r (z : (Int) × (Int)) => z.1 = gH)) := by
  refine tMx.ofW (cc := cX10_chanceOf) (maxL := 7) (ret := (some .int)) (by decide) rfl (Nat.le_of_ble_eq_true rfl) ?_
  intro p e s m below meth c hx hb hr hml hown hts hlk H locs hG hK hE hS ls hl
  have hl : lv_has ls 7 [(0, .ref a0), (1, .int a1), (2, .int a2), (3, .long a3)] := hl
  have in10 : ∀ w ∈ wsX100, w ∈ uX10_chanceOf := fun w h => List.mem_cons_of_mem _ (List.mem_append_right _ h)
  refine lv_iconst (v := 0) hx hb dX10_chanceOf_0 (by decide) ?_
  refine lv_istore (lv' := [(5, .int 0), (0, .ref a0), (1, .int a1), (2, .int a2), (3, .long a3)]) hx hb dX10_chanceOf_1 hl (by decide) rfl (fun ls hl => ?_)
  refine lv_iconst (v := 0) hx hb dX10_chanceOf_3 (by decide) ?_
  refine lv_istore (lv' := [(6, .int 0), (5, .int 0), (0, .ref a0), (1, .int a1), (2, .int a2), (3, .long a3)]) hx hb dX10_chanceOf_4 hl (by decide) rfl (fun ls hl => ?_)
  refine lv_pc (pc2 := 6) rfl ?_
  refine lp_gen (fun WW1 hWW1 => ?_)
  have kx1 : ∀ (yw : Int32) (ys : Int32) (hm : Int) (hj : Int) (H1 : Heap) (locs1 : List Loc) (ls1 : Array Slot), (0 ≤ yw.toInt) → (yw.toInt ≤ 4) → (hm = gH) → tG D (mF cI cL cC gC gE gW gA gT gI gS gM K F S N hm hj ge gk gf gs gg gr RN) t H1 → tF t wmj s.heap H1 locs1 → lv_has ls1 7 [(6, .int yw), (5, .int ys), (0, .ref a0), (1, .int a1), (2, .int a2), (3, .long a3)] → WW1 H1 locs1 (F0 m 57 ls1 []) := by
    intro yw ys hm hj H locs ls v1_0 v1_1 v1_2 hG hS hl
    refine (hWW1 _ _ _).mpr ?_
    refine lv_iload hx hb dX10_chanceOf_57 (lv_at hl 1 rfl) ?_
    exact tx_iret (z := (hm, hj)) hx hb hr hlk hG hS (by show hm = gH; omega) dX10_chanceOf_59
  have lp1 : ∀ (kk1 : Nat) (yw : Int32) (ys : Int32) (hm : Int) (hj : Int) (H1 : Heap) (locs1 : List Loc) (ls1 : Array Slot), 4 - yw.toInt ≤ (kk1 : Int) → (0 ≤ yw.toInt) → (yw.toInt ≤ 4) → (hm = gH) → tG D (mF cI cL cC gC gE gW gA gT gI gS gM K F S N hm hj ge gk gf gs gg gr RN) t H1 → tF t wmj s.heap H1 locs1 → lv_has ls1 7 [(6, .int yw), (5, .int ys), (0, .ref a0), (1, .int a1), (2, .int a2), (3, .long a3)] → WW1 H1 locs1 (F0 m 6 ls1 []) := by
    intro kk1
    induction kk1 with
    | zero =>
      intro yw ys hm hj H locs ls hk1 v1_0 v1_1 v1_2 hG hS hl
      refine (hWW1 _ _ _).mpr ?_
      refine lv_iload hx hb dX10_chanceOf_6 (lv_at hl 0 rfl) ?_
      refine lv_pc (pc2 := 8) rfl ?_
      refine lv_iconst (v := 4) hx hb dX10_chanceOf_8 (by decide) ?_
      refine lv_icmp_ge (tgt := 57) hx hb dX10_chanceOf_9 (by decide) (fun c_2 => ?_) (fun c_2 => ?_)
      · skip
        have c_2 : 4 ≤ yw.toInt := q_le c_2
        exact (hWW1 _ _ _).mp (kx1 yw ys hm hj H locs ls v1_0 v1_1 v1_2 hG hS (lv_sub hl [0, 1, 2, 3, 4, 5] rfl))
      · skip
        have c_2 : yw.toInt < 4 := q_nle c_2
        exfalso; omega
    | succ kk1 ih1 =>
      intro yw ys hm hj H locs ls hk1 v1_0 v1_1 v1_2 hG hS hl
      refine (hWW1 _ _ _).mpr ?_
      refine lv_iload hx hb dX10_chanceOf_6 (lv_at hl 0 rfl) ?_
      refine lv_iconst (v := 4) hx hb dX10_chanceOf_8 (by decide) ?_
      refine lv_icmp_ge (tgt := 57) hx hb dX10_chanceOf_9 (by decide) (fun c_3 => ?_) (fun c_3 => ?_)
      · skip
        have c_3 : 4 ≤ yw.toInt := q_le c_3
        exact (hWW1 _ _ _).mp (kx1 yw ys hm hj H locs ls v1_0 v1_1 v1_2 hG hS (lv_sub hl [0, 1, 2, 3, 4, 5] rfl))
      · skip
        have c_3 : yw.toInt < 4 := q_nle c_3
        refine lv_iload hx hb dX10_chanceOf_12 (lv_at hl 1 rfl) ?_
        refine lv_aload_n hx hb dX10_chanceOf_14 rfl (lv_at hl 2 rfl) ?_
        obtain ⟨r_4, v_6, r_7, r_9, r_11, r_13, r_15, r_17, r_19, r_21, r_23, r_25, r_27, r_29, r_31, r_33, r_35, r_37, r_39, r_41, r_43, r_45, r_47, v_49, r_50, at_52, h_5, h_8, h_10, h_12, h_14, h_16, h_18, h_20, h_22, h_24, h_26, h_28, h_30, h_32, h_34, h_36, h_38, h_40, h_42, h_44, h_46, h_48, h_51⟩ := mF_o40 hG k_a0
        refine va_get (D := D) (ci := 9) (v := .ref r_39) (C := RX10) (T := TX10) (N := 36) hx hb hts in10 hown hK (va_one at_52) 0 rfl rfl 23 (by decide) (hts (.fieldLink RX10 62 "RiverModelModel" "weight" "[I") (List.mem_of_getElem? (i := 1) rfl)) (fun _ h9 => h9) rfl dX10_chanceOf_15 ?_
        refine lv_pc (pc2 := 18) rfl ?_
        refine lv_iload hx hb dX10_chanceOf_18 (lv_at hl 0 rfl) ?_
        have at_53 := mF_o58 hG h_40
        have b_54 : vp_in yw 4 := (q_in (by omega) (by omega))
        refine va_iald hx hb hK (va_one at_53) 0 0 rfl rfl b_54 dX10_chanceOf_20 ?_
        refine lv_topi (fun x_55 e_56 => ?_)
        have w_x_55 : x_55 = gW (yw.toInt).toNat := by rw [e_56]; exact congrArg (fun q : Int => gW q.toNat) (show yw.toInt = yw.toInt by omega)
        have i_x_55 : x_55.toInt = (gW (yw.toInt).toNat).toInt := by rw [w_x_55]
        refine lv_if_le (tgt := 47) hx hb dX10_chanceOf_21 (by decide) (fun c_57 => ?_) (fun c_57 => ?_)
        · skip
          have c_57 : x_55.toInt ≤ 0 := q_le c_57
          refine lv_iconst (v := 0) hx hb dX10_chanceOf_47 (by decide) ?_
          refine lv_iadd hx hb dX10_chanceOf_48 ?_
          refine lv_topi (fun x_58 e_59 => ?_)
          refine lv_istore (lv' := [(5, .int x_58), (6, .int yw), (0, .ref a0), (1, .int a1), (2, .int a2), (3, .long a3)]) hx hb dX10_chanceOf_49 hl (by decide) rfl (fun ls hl => ?_)
          obtain ⟨x_60, e_61⟩ : ∃ y : Int32, y = yw + Int32.ofInt 1 := ⟨_, rfl⟩
          have i_x_60 : x_60.toInt = yw.toInt + 1 := by rw [e_61, show Int32.ofInt 1 = 1 by decide]; exact (q_add (by rw [show (1 : Int32).toInt = 1 by decide]; omega) (by rw [show (1 : Int32).toInt = 1 by decide]; omega)).trans (by rw [show (1 : Int32).toInt = 1 by decide])
          refine lv_iinc (v := x_60) (lv' := [(6, .int x_60), (5, .int x_58), (0, .ref a0), (1, .int a1), (2, .int a2), (3, .long a3)]) hx hb dX10_chanceOf_51 hl (k := 1) rfl e_61.symm (by decide) rfl (fun ls hl => ?_)
          refine lv_goto (tgt := 6) hx hb dX10_chanceOf_54 (by decide) ?_
          exact (hWW1 _ _ _).mp (ih1 x_60 x_58 hm hj H locs ls (by omega) (by omega) (by omega) (by omega) hG hS (lv_sub hl [0, 1, 2, 3, 4, 5] rfl))
        · skip
          have c_57 : 0 < x_55.toInt := q_nle c_57
          refine lv_pc (pc2 := 24) rfl ?_
          refine lv_aload_n hx hb dX10_chanceOf_24 rfl (lv_at hl 2 rfl) ?_
          refine lv_iload_n hx hb dX10_chanceOf_25 rfl (lv_at hl 3 rfl) ?_
          refine lv_iload_n hx hb dX10_chanceOf_26 rfl (lv_at hl 4 rfl) ?_
          refine lv_iload hx hb dX10_chanceOf_27 (lv_at hl 0 rfl) ?_
          refine tx_calll (W.runV (As := [.int a1, .int a2, .int yw]) (rest := [.int ys]) ⟨hx, hb, hml, hown, hts⟩ (m_X10_peakBy l D t cI cL cC gC gE gW gA gT gI gS gM K F S N hm hj ge gk gf gs gg gr RN a0 a1 a2 yw  uq (by omega) (by omega) (by omega) (by omega) hO0 (by omega) (by omega) (by omega) (by omega) (by omega) (by omega) (by omega) k_a0) (cwV 3 hts gu_X10_chanceOf_X10_peakBy_291 rfl rfl rfl (by decide +kernel) ⟨Nat.le_of_ble_eq_true rfl, Nat.le_of_ble_eq_true rfl⟩) (tP_V hG hE at_52 rfl) rfl rfl hl.1 rfl (lv_room (Nat.le_of_ble_eq_true rfl)) dX10_chanceOf_29 ⟨Nat.le_of_ble_eq_true rfl, Nat.le_of_ble_eq_true rfl⟩) hS (fun _ h => h) (fun z_62 zz_65 H locs hp_63 hG hS o_64 => ?_)
          obtain ⟨gH_66, gJ_67⟩ := zz_65
          have at_52 := va_at.keptC at_52 o_64 k_a0 rfl
          have at_53 := va_at.keptC at_53 o_64 h_40 rfl
          replace hG : tG D (mF cI cL cC gC gE gW gA gT gI gS gM K F S N gH_66 gJ_67 ge gk gf gs gg gr RN) t H := hG
          have hp_63 : gH_66 = hm := hp_63
          have p_68 := hp_63
          refine lv_lload_n hx hb dX10_chanceOf_32 rfl (lv_at hl 5 rfl) ?_
          refine W.lcmp hx hb dX10_chanceOf_33 ?_
          refine lv_if_le (tgt := 47) hx hb dX10_chanceOf_34 (by decide) (fun c_69 => ?_) (fun c_69 => ?_)
          · skip
            have c_69 : z_62.toInt ≤ a3.toInt := q_cmp_le c_69
            refine lv_pc (pc2 := 47) rfl ?_
            refine lv_iconst (v := 0) hx hb dX10_chanceOf_47 (by decide) ?_
            refine lv_iadd hx hb dX10_chanceOf_48 ?_
            refine lv_topi (fun x_70 e_71 => ?_)
            refine lv_istore (lv' := [(5, .int x_70), (6, .int yw), (0, .ref a0), (1, .int a1), (2, .int a2), (3, .long a3)]) hx hb dX10_chanceOf_49 hl (by decide) rfl (fun ls hl => ?_)
            obtain ⟨x_72, e_73⟩ : ∃ y : Int32, y = yw + Int32.ofInt 1 := ⟨_, rfl⟩
            have i_x_72 : x_72.toInt = yw.toInt + 1 := by rw [e_73, show Int32.ofInt 1 = 1 by decide]; exact (q_add (by rw [show (1 : Int32).toInt = 1 by decide]; omega) (by rw [show (1 : Int32).toInt = 1 by decide]; omega)).trans (by rw [show (1 : Int32).toInt = 1 by decide])
            refine lv_iinc (v := x_72) (lv' := [(6, .int x_72), (5, .int x_70), (0, .ref a0), (1, .int a1), (2, .int a2), (3, .long a3)]) hx hb dX10_chanceOf_51 hl (k := 1) rfl e_73.symm (by decide) rfl (fun ls hl => ?_)
            refine lv_goto (tgt := 6) hx hb dX10_chanceOf_54 (by decide) ?_
            exact (hWW1 _ _ _).mp (ih1 x_72 x_70 gH_66 gJ_67 H locs ls (by omega) (by omega) (by omega) (by omega) hG hS (lv_sub hl [0, 1, 2, 3, 4, 5] rfl))
          · skip
            have c_69 : a3.toInt < z_62.toInt := q_cmp_nle c_69
            refine lv_aload_n hx hb dX10_chanceOf_37 rfl (lv_at hl 2 rfl) ?_
            refine va_get (D := D) (ci := 9) (v := .ref r_39) (C := RX10) (T := TX10) (N := 36) hx hb hts in10 hown hK (va_one at_52) 0 rfl rfl 23 (by decide) (hts (.fieldLink RX10 62 "RiverModelModel" "weight" "[I") (List.mem_of_getElem? (i := 1) rfl)) (fun _ h9 => h9) rfl dX10_chanceOf_38 ?_
            refine lv_iload hx hb dX10_chanceOf_41 (lv_at hl 0 rfl) ?_
            refine lv_pc (pc2 := 43) rfl ?_
            have b_74 : vp_in yw 4 := (q_in (by omega) (by omega))
            refine va_iald hx hb hK (va_one at_53) 0 0 rfl rfl b_74 dX10_chanceOf_43 ?_
            refine lv_seti (y := x_55) e_56.symm ?_
            refine lv_goto (tgt := 48) hx hb dX10_chanceOf_44 (by decide) ?_
            refine lv_iadd hx hb dX10_chanceOf_48 ?_
            refine lv_topi (fun x_75 e_76 => ?_)
            refine lv_istore (lv' := [(5, .int x_75), (6, .int yw), (0, .ref a0), (1, .int a1), (2, .int a2), (3, .long a3)]) hx hb dX10_chanceOf_49 hl (by decide) rfl (fun ls hl => ?_)
            obtain ⟨x_77, e_78⟩ : ∃ y : Int32, y = yw + Int32.ofInt 1 := ⟨_, rfl⟩
            have i_x_77 : x_77.toInt = yw.toInt + 1 := by rw [e_78, show Int32.ofInt 1 = 1 by decide]; exact (q_add (by rw [show (1 : Int32).toInt = 1 by decide]; omega) (by rw [show (1 : Int32).toInt = 1 by decide]; omega)).trans (by rw [show (1 : Int32).toInt = 1 by decide])
            refine lv_iinc (v := x_77) (lv' := [(6, .int x_77), (5, .int x_75), (0, .ref a0), (1, .int a1), (2, .int a2), (3, .long a3)]) hx hb dX10_chanceOf_51 hl (k := 1) rfl e_78.symm (by decide) rfl (fun ls hl => ?_)
            refine lv_goto (tgt := 6) hx hb dX10_chanceOf_54 (by decide) ?_
            exact (hWW1 _ _ _).mp (ih1 x_77 x_75 gH_66 gJ_67 H locs ls (by omega) (by omega) (by omega) (by omega) hG hS (lv_sub hl [0, 1, 2, 3, 4, 5] rfl))
  have zi_0 : (0 : Int32).toInt = 0 := by decide
  exact lp1 (4 - (0 : Int32).toInt : Int).toNat 0 0 gH gJ H locs ls (by omega) (by omega) (by omega) (by omega) hG hS (lv_sub hl [0, 1, 2, 3, 4, 5] rfl)

def uX10_chance : List Cond := .code yX10_chance cX10_chance 5 (some .int) :: ([.constantLong RX10 243 (3), .methodLink RX10 85 yX10_in, .static yX10_in, .initialized RX10, .constantLong RX10 295 (24), .methodLink RX10 297 yX10_canSee, .instanceMethod yX10_canSee, .selects RX10 yX10_canSee yX10_canSee, .methodLink RX10 301 yX10_chanceOf, .instanceMethod yX10_chanceOf, .selects RX10 yX10_chanceOf yX10_chanceOf, .code yX10_in cX10_in 6 (some .boolean), .code yX10_canSee cX10_canSee 3 (some .boolean), .methodLink RX10 248 yX10_isSet, .instanceMethod yX10_isSet, .selects RX10 yX10_isSet yX10_isSet, .fieldLink RX10 28 "RiverModelModel" "m" "[J", .constantLong RX10 229 (96), .code yX10_isSet cX10_isSet 2 (some .boolean), .fieldLink RX10 173 "RiverModelModel" "isBuilt" "Z", .fieldLink RX10 38 "RiverModelModel" "gaugeKind" "[I", .code yX10_chanceOf cX10_chanceOf 7 (some .int), .fieldLink RX10 62 "RiverModelModel" "weight" "[I", .methodLink RX10 291 yX10_peakBy, .instanceMethod yX10_peakBy, .selects RX10 yX10_peakBy yX10_peakBy, .code yX10_peakBy cX10_peakBy 9 (some .long), .methodLink RX10 274 yX10_asides, .instanceMethod yX10_asides, .selects RX10 yX10_asides yX10_asides, .constantLong RX10 236 (-1), .methodLink RX10 277 yX10_returns, .instanceMethod yX10_returns, .selects RX10 yX10_returns yX10_returns, .fieldLink RX10 65 "RiverModelModel" "ahead" "[I", .fieldLink RX10 25 "RiverModelModel" "weather" "[I", .methodLink RX10 225 yX10_passes, .instanceMethod yX10_passes, .selects RX10 yX10_passes yX10_passes, .methodLink RX10 251 yX10_reading, .instanceMethod yX10_reading, .selects RX10 yX10_reading yX10_reading, .code yX10_asides cX10_asides 2 none, .fieldLink RX10 32 "RiverModelModel" "aside" "[J", .code yX10_returns cX10_returns 2 none, .code yX10_passes cX10_passes 12 none, .fieldLink RX10 163 "RiverModelModel" "items" "I", .fieldLink RX10 13 "RiverModelModel" "kind" "[I", .methodLink RX10 221 yX10_moves, .instanceMethod yX10_moves, .selects RX10 yX10_moves yX10_moves, .fieldLink RX10 16 "RiverModelModel" "first" "[I", .fieldLink RX10 19 "RiverModelModel" "second" "[I", .fieldLink RX10 22 "RiverModelModel" "number" "[I", .code yX10_moves cX10_moves 8 (some .long), .constantLong RX10 219 (10), .methodLink RX10 215 yX10_most, .instanceMethod yX10_most, .selects RX10 yX10_most yX10_most, .constantLong RX10 107 (100), .methodLink RX10 211 yX10_capacity, .instanceMethod yX10_capacity, .selects RX10 yX10_capacity yX10_capacity, .code yX10_most cX10_most 4 (some .long), .code yX10_capacity cX10_capacity 3 (some .long), .methodLink RX10 166 yX10_storeAt, .instanceMethod yX10_storeAt, .selects RX10 yX10_storeAt yX10_storeAt, .code yX10_storeAt cX10_storeAt 5 (some .int), .code yX10_reading cX10_reading 2 (some .long), .fieldLink RX10 41 "RiverModelModel" "gaugeAt" "[I"] ++ wsX100)
set_option maxRecDepth 20000 in
theorem gu_X10_chance_X10_in_85 : GoodIn uX10_chance (va_wsS RX10 85 yX10_in uX10_in) := goodIn_r _ [2, 3, 4, 12] rfl (by decide +kernel)
set_option maxRecDepth 20000 in
theorem gu_X10_chance_X10_canSee_297 : GoodIn uX10_chance (wsV RX10 297 RX10 yX10_canSee uX10_canSee) := goodIn_r _ [6, 7, 8, 4, 13, 14, 15, 16, 4, 17, 18, 19, 20, 21, 72, 73, 74, 75, 76, 77, 78, 79, 80, 81, 82, 83, 84, 85, 86, 87, 88, 89, 90, 91, 92, 93, 94, 95, 96, 97, 98, 99, 100, 101, 102, 103, 104, 105, 106, 107] rfl (by decide +kernel)
set_option maxRecDepth 20000 in
theorem gu_X10_chance_X10_chanceOf_301 : GoodIn uX10_chance (wsV RX10 301 RX10 yX10_chanceOf uX10_chanceOf) := goodIn_r _ [9, 10, 11, 4, 22, 23, 24, 25, 26, 4, 27, 28, 29, 30, 31, 32, 33, 34, 17, 35, 36, 37, 38, 39, 40, 41, 42, 43, 44, 45, 46, 47, 48, 49, 50, 51, 52, 53, 54, 55, 56, 57, 58, 59, 60, 61, 62, 63, 64, 65, 66, 67, 68, 69, 70, 21, 71, 72, 73, 74, 75, 76, 77, 78, 79, 80, 81, 82, 83, 84, 85, 86, 87, 88, 89, 90, 91, 92, 93, 94, 95, 96, 97, 98, 99, 100, 101, 102, 103, 104, 105, 106, 107] rfl (by decide +kernel)
set_option maxHeartbeats 4000000 in
set_option maxRecDepth 100000 in
theorem m_X10_chance (l : Launch) (D : va_G) (t : Nat → Nat) (cI cL cC : ClassId) (gC : Int32) (gE : Int32) (gW : Nat → Int32) (gA : Nat → Int32) (gT : Nat → Int32) (gI : Int32) (gS : Int32) (gM : Int32) (K : Nat → Int32) (F : Nat → Int32) (S : Nat → Int32) (N : Nat → Int32) (gH : Int) (gJ : Int) (ge : Int32) (gk : Int32) (gf : Int32) (gs : Int32) (gg : Int32) (gr : Int32) (RN : Nat → Int32) (a0 : Nat) (a1 : Int32) (a2 : Int32) (a3 : Int64) (uq : ∀ b c : Nat, t b = t c → t b ≠ 0 → b = c) (hC0 : 0 ≤ gC.toInt) (hC4 : gC.toInt ≤ 400) (hI0 : 0 ≤ gI.toInt) (hI4 : gI.toInt ≤ 40) (hH0 : 0 ≤ gH) (hH9 : gH ≤ 96) (hm0 : 0 ≤ gM.toInt) (hm3 : gM.toInt ≤ 3) (hO0 : okM K F S N 0 gI.toInt) (hW : swM gS K F S N gI.toInt) (k_a0 : t a0 = 40) : tMx (Z := (Int) × (Int)) l yX10_chance uX10_chance 6 158 D (mF cI cL cC gC gE gW gA gT gI gS gM K F S N gH gJ ge gk gf gs gg gr RN) (fun z => (mF cI cL cC gC gE gW gA gT gI gS gM K F S N z.1 z.2 ge gk gf gs gg gr RN)) t cI cL cC [.ref a0, .int a1, .int a2, .long a3] wmj (xI (fun r (z : (Int) × (Int)) => 0 ≤ z.1 ∧ z.1 ≤ 96)) := by
  refine tMx.ofW (cc := cX10_chance) (maxL := 5) (ret := (some .int)) (by decide) rfl (Nat.le_of_ble_eq_true rfl) ?_
  intro p e s m below meth c hx hb hr hml hown hts hlk H locs hG hK hE hS ls hl
  have hl : lv_has ls 5 [(0, .ref a0), (1, .int a1), (2, .int a2), (3, .long a3)] := hl
  skip
  refine lv_iload_n hx hb dX10_chance_0 rfl (lv_at hl 1 rfl) ?_
  refine lv_i2l (v := a1.toInt64) hx hb dX10_chance_1 rfl ?_
  refine lv_lconst (v := 0) hx hb dX10_chance_2 (by decide) ?_
  refine lv_ldc2 hx hb hown (hts (.constantLong RX10 243 (3)) (List.mem_of_getElem? (i := 1) rfl)) dX10_chance_3 ?_
  have zl_0 : (0 : Int64).toInt = 0 := by decide
  have zl_3 : (3 : Int64).toInt = 3 := by decide
  refine ty_calli (W.runS (As := [.long a1.toInt64, .long 0, .long 3]) (rest := []) ⟨hx, hb, hml, hown, hts⟩ (m_X10_in l D t cI cL cC gC gE gW gA gT gI gS gM K F S N gH gJ ge gk gf gs gg gr RN a1.toInt64 0 3 a1.toInt 0 3 uq (q_i2l _) (by decide) (by decide) ) (va_cwS 3 hts gu_X10_chance_X10_in_85 rfl rfl rfl (by decide +kernel) ⟨Nat.le_of_ble_eq_true rfl, Nat.le_of_ble_eq_true rfl⟩) (tP_S hG hE) rfl rfl hl.1 rfl (lv_room (Nat.le_of_ble_eq_true rfl)) dX10_chance_6 ⟨Nat.le_of_ble_eq_true rfl, Nat.le_of_ble_eq_true rfl⟩) hS (fun k h => by simp [wr0] at h) (fun r_1 H locs hp_2 hG hS o_3 => ?_)
  have hp_2 : (r_1 = 1 ∧ 0 ≤ a1.toInt ∧ a1.toInt ≤ 3) ∨ (r_1 = 0 ∧ (a1.toInt < 0 ∨ 3 < a1.toInt)) := hp_2
  rcases hp_2 with ⟨rfl, p_5, p_6⟩ | ⟨rfl, p_7⟩
  · skip
    refine lv_if_eq (tgt := 24) hx hb dX10_chance_9 (by decide) (fun q => absurd q (by decide)) (fun _ => ?_)
    refine lv_iload_n hx hb dX10_chance_12 rfl (lv_at hl 2 rfl) ?_
    refine lv_pc (pc2 := 13) rfl ?_
    refine lv_i2l (v := a2.toInt64) hx hb dX10_chance_13 rfl ?_
    refine lv_lconst (v := 1) hx hb dX10_chance_14 (by decide) ?_
    refine lv_ldc2 hx hb hown (hts (.constantLong RX10 295 (24)) (List.mem_of_getElem? (i := 5) rfl)) dX10_chance_15 ?_
    have zl_1 : (1 : Int64).toInt = 1 := by decide
    have zl_24 : (24 : Int64).toInt = 24 := by decide
    refine ty_calli (W.runS (As := [.long a2.toInt64, .long 1, .long 24]) (rest := []) ⟨hx, hb, hml, hown, hts⟩ (m_X10_in l D t cI cL cC gC gE gW gA gT gI gS gM K F S N gH gJ ge gk gf gs gg gr RN a2.toInt64 1 24 a2.toInt 1 24 uq (q_i2l _) (by decide) (by decide) ) (va_cwS 3 hts gu_X10_chance_X10_in_85 rfl rfl rfl (by decide +kernel) ⟨Nat.le_of_ble_eq_true rfl, Nat.le_of_ble_eq_true rfl⟩) (tP_S hG hE) rfl rfl hl.1 rfl (lv_room (Nat.le_of_ble_eq_true rfl)) dX10_chance_18 ⟨Nat.le_of_ble_eq_true rfl, Nat.le_of_ble_eq_true rfl⟩) hS (fun k h => by simp [wr0] at h) (fun r_8 H locs hp_9 hG hS o_10 => ?_)
    have hp_9 : (r_8 = 1 ∧ 1 ≤ a2.toInt ∧ a2.toInt ≤ 24) ∨ (r_8 = 0 ∧ (a2.toInt < 1 ∨ 24 < a2.toInt)) := hp_9
    rcases hp_9 with ⟨rfl, p_12, p_13⟩ | ⟨rfl, p_14⟩
    · skip
      refine lv_if_ne (tgt := 26) hx hb dX10_chance_21 (by decide) (fun _ => ?_) (fun q => absurd q (by decide))
      refine lv_aload_n hx hb dX10_chance_26 rfl (lv_at hl 0 rfl) ?_
      refine lv_iload_n hx hb dX10_chance_27 rfl (lv_at hl 1 rfl) ?_
      refine lv_iload_n hx hb dX10_chance_28 rfl (lv_at hl 2 rfl) ?_
      refine lv_pc (pc2 := 29) rfl ?_
      obtain ⟨r_15, v_17, r_18, r_20, r_22, r_24, r_26, r_28, r_30, r_32, r_34, r_36, r_38, r_40, r_42, r_44, r_46, r_48, r_50, r_52, r_54, r_56, r_58, v_60, r_61, at_63, h_16, h_19, h_21, h_23, h_25, h_27, h_29, h_31, h_33, h_35, h_37, h_39, h_41, h_43, h_45, h_47, h_49, h_51, h_53, h_55, h_57, h_59, h_62⟩ := mF_o40 hG k_a0
      refine ty_calli (W.runV (As := [.int a1, .int a2]) (rest := []) ⟨hx, hb, hml, hown, hts⟩ (m_X10_canSee l D t cI cL cC gC gE gW gA gT gI gS gM K F S N gH gJ ge gk gf gs gg gr RN a0 a1 a2  uq (by omega) (by omega) (by omega) (by omega) (by omega) (by omega) k_a0) (cwV 2 hts gu_X10_chance_X10_canSee_297 rfl rfl rfl (by decide +kernel) ⟨Nat.le_of_ble_eq_true rfl, Nat.le_of_ble_eq_true rfl⟩) (tP_V hG hE at_63 rfl) rfl rfl hl.1 rfl (lv_room (Nat.le_of_ble_eq_true rfl)) dX10_chance_29 ⟨Nat.le_of_ble_eq_true rfl, Nat.le_of_ble_eq_true rfl⟩) hS (fun k h => by simp [wr0] at h) (fun r_64 H locs hp_65 hG hS o_66 => ?_)
      have at_63 := va_at.keptC at_63 o_66 k_a0 rfl
      have hp_65 : (r_64 = 1 ∧ gH + a2.toInt ≤ 96) ∨ (r_64 = 0) := hp_65
      rcases hp_65 with ⟨rfl, p_68⟩ | rfl
      · skip
        refine lv_if_eq (tgt := 45) hx hb dX10_chance_32 (by decide) (fun q => absurd q (by decide)) (fun _ => ?_)
        refine lv_aload_n hx hb dX10_chance_35 rfl (lv_at hl 0 rfl) ?_
        refine lv_iload_n hx hb dX10_chance_36 rfl (lv_at hl 1 rfl) ?_
        refine lv_iload_n hx hb dX10_chance_37 rfl (lv_at hl 2 rfl) ?_
        refine lv_lload_n hx hb dX10_chance_38 rfl (lv_at hl 3 rfl) ?_
        refine tx_calli (W.runV (As := [.int a1, .int a2, .long a3]) (rest := []) ⟨hx, hb, hml, hown, hts⟩ (m_X10_chanceOf l D t cI cL cC gC gE gW gA gT gI gS gM K F S N gH gJ ge gk gf gs gg gr RN a0 a1 a2 a3  uq (by omega) (by omega) (by omega) (by omega) hO0 (by omega) (by omega) (by omega) (by omega) (by omega) k_a0) (cwV 3 hts gu_X10_chance_X10_chanceOf_301 rfl rfl rfl (by decide +kernel) ⟨Nat.le_of_ble_eq_true rfl, Nat.le_of_ble_eq_true rfl⟩) (tP_V hG hE at_63 rfl) rfl rfl hl.1 rfl (lv_room (Nat.le_of_ble_eq_true rfl)) dX10_chance_39 ⟨Nat.le_of_ble_eq_true rfl, Nat.le_of_ble_eq_true rfl⟩) hS (fun _ h => h) (fun r_69 zz_72 H locs hp_70 hG hS o_71 => ?_)
        obtain ⟨gH_73, gJ_74⟩ := zz_72
        have at_63 := va_at.keptC at_63 o_71 k_a0 rfl
        replace hG : tG D (mF cI cL cC gC gE gW gA gT gI gS gM K F S N gH_73 gJ_74 ge gk gf gs gg gr RN) t H := hG
        have hp_70 : gH_73 = gH := hp_70
        have p_75 := hp_70
        refine lv_goto (tgt := 47) hx hb dX10_chance_42 (by decide) ?_
        refine lv_pc (pc2 := 47) rfl ?_
        exact tx_iret (z := (gH_73, gJ_74)) hx hb hr hlk hG hS ⟨(by show 0 ≤ gH_73; omega), (by show gH_73 ≤ 96; omega)⟩ dX10_chance_47
      · skip
        refine lv_if_eq (tgt := 45) hx hb dX10_chance_32 (by decide) (fun _ => ?_) (fun q => absurd (by decide) q)
        refine lv_bipush (v := (-2)) hx hb dX10_chance_45 (by decide) ?_
        have zi_m2 : ((-2) : Int32).toInt = (-2) := by decide
        exact tx_iret (z := (gH, gJ)) hx hb hr hlk hG hS ⟨(by show 0 ≤ gH; omega), (by show gH ≤ 96; omega)⟩ dX10_chance_47
    · skip
      refine lv_if_ne (tgt := 26) hx hb dX10_chance_21 (by decide) (fun q => absurd rfl q) (fun _ => ?_)
      refine lv_iconst (v := (-1)) hx hb dX10_chance_24 (by decide) ?_
      have zi_m1 : ((-1) : Int32).toInt = (-1) := by decide
      exact tx_iret (z := (gH, gJ)) hx hb hr hlk hG hS ⟨(by show 0 ≤ gH; omega), (by show gH ≤ 96; omega)⟩ dX10_chance_25
  · skip
    refine lv_if_eq (tgt := 24) hx hb dX10_chance_9 (by decide) (fun _ => ?_) (fun q => absurd (by decide) q)
    refine lv_pc (pc2 := 24) rfl ?_
    refine lv_iconst (v := (-1)) hx hb dX10_chance_24 (by decide) ?_
    have zi_m1 : ((-1) : Int32).toInt = (-1) := by decide
    exact tx_iret (z := (gH, gJ)) hx hb hr hlk hG hS ⟨(by show 0 ≤ gH; omega), (by show gH ≤ 96; omega)⟩ dX10_chance_25

def uX10_warn : List Cond := .code yX10_warn cX10_warn 9 (some .int) :: ([.constantLong RX10 243 (3), .methodLink RX10 85 yX10_in, .static yX10_in, .initialized RX10, .constantLong RX10 295 (24), .constantLong RX10 107 (100), .methodLink RX10 297 yX10_canSee, .instanceMethod yX10_canSee, .selects RX10 yX10_canSee yX10_canSee, .fieldLink RX10 62 "RiverModelModel" "weight" "[I", .methodLink RX10 301 yX10_chanceOf, .instanceMethod yX10_chanceOf, .selects RX10 yX10_chanceOf yX10_chanceOf, .methodLink RX10 291 yX10_peakBy, .instanceMethod yX10_peakBy, .selects RX10 yX10_peakBy yX10_peakBy, .fieldLink RX10 68 "RiverModelModel" "booked" "[I", .code yX10_in cX10_in 6 (some .boolean), .code yX10_canSee cX10_canSee 3 (some .boolean), .methodLink RX10 248 yX10_isSet, .instanceMethod yX10_isSet, .selects RX10 yX10_isSet yX10_isSet, .fieldLink RX10 28 "RiverModelModel" "m" "[J", .constantLong RX10 229 (96), .code yX10_isSet cX10_isSet 2 (some .boolean), .fieldLink RX10 173 "RiverModelModel" "isBuilt" "Z", .fieldLink RX10 38 "RiverModelModel" "gaugeKind" "[I", .code yX10_chanceOf cX10_chanceOf 7 (some .int), .code yX10_peakBy cX10_peakBy 9 (some .long), .methodLink RX10 274 yX10_asides, .instanceMethod yX10_asides, .selects RX10 yX10_asides yX10_asides, .constantLong RX10 236 (-1), .methodLink RX10 277 yX10_returns, .instanceMethod yX10_returns, .selects RX10 yX10_returns yX10_returns, .fieldLink RX10 65 "RiverModelModel" "ahead" "[I", .fieldLink RX10 25 "RiverModelModel" "weather" "[I", .methodLink RX10 225 yX10_passes, .instanceMethod yX10_passes, .selects RX10 yX10_passes yX10_passes, .methodLink RX10 251 yX10_reading, .instanceMethod yX10_reading, .selects RX10 yX10_reading yX10_reading, .code yX10_asides cX10_asides 2 none, .fieldLink RX10 32 "RiverModelModel" "aside" "[J", .code yX10_returns cX10_returns 2 none, .code yX10_passes cX10_passes 12 none, .fieldLink RX10 163 "RiverModelModel" "items" "I", .fieldLink RX10 13 "RiverModelModel" "kind" "[I", .methodLink RX10 221 yX10_moves, .instanceMethod yX10_moves, .selects RX10 yX10_moves yX10_moves, .fieldLink RX10 16 "RiverModelModel" "first" "[I", .fieldLink RX10 19 "RiverModelModel" "second" "[I", .fieldLink RX10 22 "RiverModelModel" "number" "[I", .code yX10_moves cX10_moves 8 (some .long), .constantLong RX10 219 (10), .methodLink RX10 215 yX10_most, .instanceMethod yX10_most, .selects RX10 yX10_most yX10_most, .methodLink RX10 211 yX10_capacity, .instanceMethod yX10_capacity, .selects RX10 yX10_capacity yX10_capacity, .code yX10_most cX10_most 4 (some .long), .code yX10_capacity cX10_capacity 3 (some .long), .methodLink RX10 166 yX10_storeAt, .instanceMethod yX10_storeAt, .selects RX10 yX10_storeAt yX10_storeAt, .code yX10_storeAt cX10_storeAt 5 (some .int), .code yX10_reading cX10_reading 2 (some .long), .fieldLink RX10 41 "RiverModelModel" "gaugeAt" "[I"] ++ wsX100)
set_option maxRecDepth 20000 in
theorem gu_X10_warn_X10_in_85 : GoodIn uX10_warn (va_wsS RX10 85 yX10_in uX10_in) := goodIn_r _ [2, 3, 4, 18] rfl (by decide +kernel)
set_option maxRecDepth 20000 in
theorem gu_X10_warn_X10_canSee_297 : GoodIn uX10_warn (wsV RX10 297 RX10 yX10_canSee uX10_canSee) := goodIn_r _ [7, 8, 9, 4, 19, 20, 21, 22, 4, 23, 24, 25, 26, 27, 73, 74, 75, 76, 77, 78, 79, 80, 81, 82, 83, 84, 85, 86, 87, 88, 89, 90, 91, 92, 93, 94, 95, 96, 97, 98, 99, 100, 101, 102, 103, 104, 105, 106, 107, 108] rfl (by decide +kernel)
set_option maxRecDepth 20000 in
theorem gu_X10_warn_X10_chanceOf_301 : GoodIn uX10_warn (wsV RX10 301 RX10 yX10_chanceOf uX10_chanceOf) := goodIn_r _ [11, 12, 13, 4, 28, 10, 14, 15, 16, 4, 29, 30, 31, 32, 33, 34, 35, 36, 23, 37, 38, 39, 40, 41, 42, 43, 44, 45, 46, 47, 48, 49, 50, 51, 52, 53, 54, 55, 56, 57, 58, 59, 60, 61, 6, 62, 63, 64, 65, 66, 67, 68, 69, 70, 71, 27, 72, 73, 74, 75, 76, 77, 78, 79, 80, 81, 82, 83, 84, 85, 86, 87, 88, 89, 90, 91, 92, 93, 94, 95, 96, 97, 98, 99, 100, 101, 102, 103, 104, 105, 106, 107, 108] rfl (by decide +kernel)
set_option maxRecDepth 20000 in
theorem gu_X10_warn_X10_peakBy_291 : GoodIn uX10_warn (wsV RX10 291 RX10 yX10_peakBy uX10_peakBy) := goodIn_r _ [14, 15, 16, 4, 29, 30, 31, 32, 4, 33, 34, 35, 36, 23, 37, 38, 39, 40, 41, 42, 43, 44, 45, 46, 47, 48, 49, 50, 51, 52, 53, 54, 55, 56, 57, 58, 59, 60, 61, 6, 62, 63, 64, 65, 66, 67, 68, 69, 70, 71, 27, 72, 73, 74, 75, 76, 77, 78, 79, 80, 81, 82, 83, 84, 85, 86, 87, 88, 89, 90, 91, 92, 93, 94, 95, 96, 97, 98, 99, 100, 101, 102, 103, 104, 105, 106, 107, 108] rfl (by decide +kernel)
set_option maxHeartbeats 4000000 in
set_option maxRecDepth 100000 in
theorem m_X10_warn (l : Launch) (D : va_G) (t : Nat → Nat) (cI cL cC : ClassId) (gC : Int32) (gE : Int32) (gW : Nat → Int32) (gA : Nat → Int32) (gT : Nat → Int32) (gI : Int32) (gS : Int32) (gM : Int32) (K : Nat → Int32) (F : Nat → Int32) (S : Nat → Int32) (N : Nat → Int32) (gH : Int) (gJ : Int) (ge : Int32) (gk : Int32) (gf : Int32) (gs : Int32) (gg : Int32) (gr : Int32) (RN : Nat → Int32) (a0 : Nat) (a1 : Int32) (a2 : Int32) (a3 : Int64) (a4 : Int32) (uq : ∀ b c : Nat, t b = t c → t b ≠ 0 → b = c) (hC0 : 0 ≤ gC.toInt) (hC4 : gC.toInt ≤ 400) (hI0 : 0 ≤ gI.toInt) (hI4 : gI.toInt ≤ 40) (hH0 : 0 ≤ gH) (hH9 : gH ≤ 96) (hm0 : 0 ≤ gM.toInt) (hm3 : gM.toInt ≤ 3) (hO0 : okM K F S N 0 gI.toInt) (hW : swM gS K F S N gI.toInt) (k_a0 : t a0 = 40) : tMx (Z := (Int) × (Int)) l yX10_warn uX10_warn 6 158 D (mF cI cL cC gC gE gW gA gT gI gS gM K F S N gH gJ ge gk gf gs gg gr RN) (fun z => (mF cI cL cC gC gE gW gA gT gI gS gM K F S N z.1 z.2 ge gk gf gs gg gr RN)) t cI cL cC [.ref a0, .int a1, .int a2, .long a3, .int a4] wWa (xI (fun r (z : (Int) × (Int)) => 0 ≤ z.1 ∧ z.1 ≤ 96)) := by
  refine tMx.ofW (cc := cX10_warn) (maxL := 9) (ret := (some .int)) (by decide) rfl (Nat.le_of_ble_eq_true rfl) ?_
  intro p e s m below meth c hx hb hr hml hown hts hlk H locs hG hK hE hS ls hl
  have hl : lv_has ls 9 [(0, .ref a0), (1, .int a1), (2, .int a2), (3, .long a3), (5, .int a4)] := hl
  have in10 : ∀ w ∈ wsX100, w ∈ uX10_warn := fun w h => List.mem_cons_of_mem _ (List.mem_append_right _ h)
  refine lv_iload_n hx hb dX10_warn_0 rfl (lv_at hl 1 rfl) ?_
  refine lv_i2l (v := a1.toInt64) hx hb dX10_warn_1 rfl ?_
  refine lv_lconst (v := 0) hx hb dX10_warn_2 (by decide) ?_
  refine lv_ldc2 hx hb hown (hts (.constantLong RX10 243 (3)) (List.mem_of_getElem? (i := 1) rfl)) dX10_warn_3 ?_
  have zl_0 : (0 : Int64).toInt = 0 := by decide
  have zl_3 : (3 : Int64).toInt = 3 := by decide
  refine ty_calli (W.runS (As := [.long a1.toInt64, .long 0, .long 3]) (rest := []) ⟨hx, hb, hml, hown, hts⟩ (m_X10_in l D t cI cL cC gC gE gW gA gT gI gS gM K F S N gH gJ ge gk gf gs gg gr RN a1.toInt64 0 3 a1.toInt 0 3 uq (q_i2l _) (by decide) (by decide) ) (va_cwS 3 hts gu_X10_warn_X10_in_85 rfl rfl rfl (by decide +kernel) ⟨Nat.le_of_ble_eq_true rfl, Nat.le_of_ble_eq_true rfl⟩) (tP_S hG hE) rfl rfl hl.1 rfl (lv_room (Nat.le_of_ble_eq_true rfl)) dX10_warn_6 ⟨Nat.le_of_ble_eq_true rfl, Nat.le_of_ble_eq_true rfl⟩) hS (fun k h => by simp [wr0] at h) (fun r_1 H locs hp_2 hG hS o_3 => ?_)
  have hp_2 : (r_1 = 1 ∧ 0 ≤ a1.toInt ∧ a1.toInt ≤ 3) ∨ (r_1 = 0 ∧ (a1.toInt < 0 ∨ 3 < a1.toInt)) := hp_2
  rcases hp_2 with ⟨rfl, p_5, p_6⟩ | ⟨rfl, p_7⟩
  · skip
    refine lv_if_eq (tgt := 37) hx hb dX10_warn_9 (by decide) (fun q => absurd q (by decide)) (fun _ => ?_)
    refine lv_iload_n hx hb dX10_warn_12 rfl (lv_at hl 2 rfl) ?_
    refine lv_pc (pc2 := 13) rfl ?_
    refine lv_i2l (v := a2.toInt64) hx hb dX10_warn_13 rfl ?_
    refine lv_lconst (v := 1) hx hb dX10_warn_14 (by decide) ?_
    refine lv_ldc2 hx hb hown (hts (.constantLong RX10 295 (24)) (List.mem_of_getElem? (i := 5) rfl)) dX10_warn_15 ?_
    have zl_1 : (1 : Int64).toInt = 1 := by decide
    have zl_24 : (24 : Int64).toInt = 24 := by decide
    refine ty_calli (W.runS (As := [.long a2.toInt64, .long 1, .long 24]) (rest := []) ⟨hx, hb, hml, hown, hts⟩ (m_X10_in l D t cI cL cC gC gE gW gA gT gI gS gM K F S N gH gJ ge gk gf gs gg gr RN a2.toInt64 1 24 a2.toInt 1 24 uq (q_i2l _) (by decide) (by decide) ) (va_cwS 3 hts gu_X10_warn_X10_in_85 rfl rfl rfl (by decide +kernel) ⟨Nat.le_of_ble_eq_true rfl, Nat.le_of_ble_eq_true rfl⟩) (tP_S hG hE) rfl rfl hl.1 rfl (lv_room (Nat.le_of_ble_eq_true rfl)) dX10_warn_18 ⟨Nat.le_of_ble_eq_true rfl, Nat.le_of_ble_eq_true rfl⟩) hS (fun k h => by simp [wr0] at h) (fun r_8 H locs hp_9 hG hS o_10 => ?_)
    have hp_9 : (r_8 = 1 ∧ 1 ≤ a2.toInt ∧ a2.toInt ≤ 24) ∨ (r_8 = 0 ∧ (a2.toInt < 1 ∨ 24 < a2.toInt)) := hp_9
    rcases hp_9 with ⟨rfl, p_12, p_13⟩ | ⟨rfl, p_14⟩
    · skip
      refine lv_if_eq (tgt := 37) hx hb dX10_warn_21 (by decide) (fun q => absurd q (by decide)) (fun _ => ?_)
      refine lv_iload hx hb dX10_warn_24 (lv_at hl 4 rfl) ?_
      refine lv_i2l (v := a4.toInt64) hx hb dX10_warn_26 rfl ?_
      refine lv_lconst (v := 0) hx hb dX10_warn_27 (by decide) ?_
      refine lv_pc (pc2 := 28) rfl ?_
      refine lv_ldc2 hx hb hown (hts (.constantLong RX10 107 (100)) (List.mem_of_getElem? (i := 6) rfl)) dX10_warn_28 ?_
      have zl_100 : (100 : Int64).toInt = 100 := by decide
      refine ty_calli (W.runS (As := [.long a4.toInt64, .long 0, .long 100]) (rest := []) ⟨hx, hb, hml, hown, hts⟩ (m_X10_in l D t cI cL cC gC gE gW gA gT gI gS gM K F S N gH gJ ge gk gf gs gg gr RN a4.toInt64 0 100 a4.toInt 0 100 uq (q_i2l _) (by decide) (by decide) ) (va_cwS 3 hts gu_X10_warn_X10_in_85 rfl rfl rfl (by decide +kernel) ⟨Nat.le_of_ble_eq_true rfl, Nat.le_of_ble_eq_true rfl⟩) (tP_S hG hE) rfl rfl hl.1 rfl (lv_room (Nat.le_of_ble_eq_true rfl)) dX10_warn_31 ⟨Nat.le_of_ble_eq_true rfl, Nat.le_of_ble_eq_true rfl⟩) hS (fun k h => by simp [wr0] at h) (fun r_15 H locs hp_16 hG hS o_17 => ?_)
      have hp_16 : (r_15 = 1 ∧ 0 ≤ a4.toInt ∧ a4.toInt ≤ 100) ∨ (r_15 = 0 ∧ (a4.toInt < 0 ∨ 100 < a4.toInt)) := hp_16
      rcases hp_16 with ⟨rfl, p_19, p_20⟩ | ⟨rfl, p_21⟩
      · skip
        refine lv_if_ne (tgt := 39) hx hb dX10_warn_34 (by decide) (fun _ => ?_) (fun q => absurd q (by decide))
        refine lv_aload_n hx hb dX10_warn_39 rfl (lv_at hl 0 rfl) ?_
        refine lv_iload_n hx hb dX10_warn_40 rfl (lv_at hl 1 rfl) ?_
        refine lv_iload_n hx hb dX10_warn_41 rfl (lv_at hl 2 rfl) ?_
        obtain ⟨r_22, v_24, r_25, r_27, r_29, r_31, r_33, r_35, r_37, r_39, r_41, r_43, r_45, r_47, r_49, r_51, r_53, r_55, r_57, r_59, r_61, r_63, r_65, v_67, r_68, at_70, h_23, h_26, h_28, h_30, h_32, h_34, h_36, h_38, h_40, h_42, h_44, h_46, h_48, h_50, h_52, h_54, h_56, h_58, h_60, h_62, h_64, h_66, h_69⟩ := mF_o40 hG k_a0
        refine ty_calli (W.runV (As := [.int a1, .int a2]) (rest := []) ⟨hx, hb, hml, hown, hts⟩ (m_X10_canSee l D t cI cL cC gC gE gW gA gT gI gS gM K F S N gH gJ ge gk gf gs gg gr RN a0 a1 a2  uq (by omega) (by omega) (by omega) (by omega) (by omega) (by omega) k_a0) (cwV 2 hts gu_X10_warn_X10_canSee_297 rfl rfl rfl (by decide +kernel) ⟨Nat.le_of_ble_eq_true rfl, Nat.le_of_ble_eq_true rfl⟩) (tP_V hG hE at_70 rfl) rfl rfl hl.1 rfl (lv_room (Nat.le_of_ble_eq_true rfl)) dX10_warn_42 ⟨Nat.le_of_ble_eq_true rfl, Nat.le_of_ble_eq_true rfl⟩) hS (fun k h => by simp [wr0] at h) (fun r_71 H locs hp_72 hG hS o_73 => ?_)
        have at_70 := va_at.keptC at_70 o_73 k_a0 rfl
        have hp_72 : (r_71 = 1 ∧ gH + a2.toInt ≤ 96) ∨ (r_71 = 0) := hp_72
        rcases hp_72 with ⟨rfl, p_75⟩ | rfl
        · skip
          refine lv_if_ne (tgt := 51) hx hb dX10_warn_45 (by decide) (fun _ => ?_) (fun q => absurd q (by decide))
          refine lv_pc (pc2 := 51) rfl ?_
          refine lv_aload_n hx hb dX10_warn_51 rfl (lv_at hl 0 rfl) ?_
          refine va_get (D := D) (ci := 9) (v := .ref r_57) (C := RX10) (T := TX10) (N := 36) hx hb hts in10 hown hK (va_one at_70) 0 rfl rfl 23 (by decide) (hts (.fieldLink RX10 62 "RiverModelModel" "weight" "[I") (List.mem_of_getElem? (i := 10) rfl)) (fun _ h9 => h9) rfl dX10_warn_52 ?_
          refine lv_iconst (v := 0) hx hb dX10_warn_55 (by decide) ?_
          have at_76 := mF_o58 hG h_58
          have b_77 : vp_in 0 4 := (q_in (by decide) (by decide))
          refine va_iald hx hb hK (va_one at_76) 0 0 rfl rfl b_77 dX10_warn_56 ?_
          refine lv_topi (fun x_78 e_79 => ?_)
          have w_x_78 : x_78 = gW 0 := by rw [e_79]; rfl
          have i_x_78 : x_78.toInt = (gW 0).toInt := by rw [w_x_78]
          refine lv_aload_n hx hb dX10_warn_57 rfl (lv_at hl 0 rfl) ?_
          refine va_get (D := D) (ci := 9) (v := .ref r_57) (C := RX10) (T := TX10) (N := 36) hx hb hts in10 hown hK (va_one at_70) 0 rfl rfl 23 (by decide) (hts (.fieldLink RX10 62 "RiverModelModel" "weight" "[I") (List.mem_of_getElem? (i := 10) rfl)) (fun _ h9 => h9) rfl dX10_warn_58 ?_
          refine lv_iconst (v := 1) hx hb dX10_warn_61 (by decide) ?_
          have b_80 : vp_in 1 4 := (q_in (by decide) (by decide))
          refine va_iald hx hb hK (va_one at_76) 0 0 rfl rfl b_80 dX10_warn_62 ?_
          refine lv_topi (fun x_81 e_82 => ?_)
          have w_x_81 : x_81 = gW 1 := by rw [e_82]; rfl
          have i_x_81 : x_81.toInt = (gW 1).toInt := by rw [w_x_81]
          refine lv_pc (pc2 := 63) rfl ?_
          refine lv_iadd hx hb dX10_warn_63 ?_
          refine lv_topi (fun x_83 e_84 => ?_)
          refine lv_aload_n hx hb dX10_warn_64 rfl (lv_at hl 0 rfl) ?_
          refine va_get (D := D) (ci := 9) (v := .ref r_57) (C := RX10) (T := TX10) (N := 36) hx hb hts in10 hown hK (va_one at_70) 0 rfl rfl 23 (by decide) (hts (.fieldLink RX10 62 "RiverModelModel" "weight" "[I") (List.mem_of_getElem? (i := 10) rfl)) (fun _ h9 => h9) rfl dX10_warn_65 ?_
          refine lv_iconst (v := 2) hx hb dX10_warn_68 (by decide) ?_
          have b_85 : vp_in 2 4 := (q_in (by decide) (by decide))
          refine va_iald hx hb hK (va_one at_76) 0 0 rfl rfl b_85 dX10_warn_69 ?_
          refine lv_topi (fun x_86 e_87 => ?_)
          have w_x_86 : x_86 = gW 2 := by rw [e_87]; rfl
          have i_x_86 : x_86.toInt = (gW 2).toInt := by rw [w_x_86]
          refine lv_iadd hx hb dX10_warn_70 ?_
          refine lv_topi (fun x_88 e_89 => ?_)
          refine lv_aload_n hx hb dX10_warn_71 rfl (lv_at hl 0 rfl) ?_
          refine va_get (D := D) (ci := 9) (v := .ref r_57) (C := RX10) (T := TX10) (N := 36) hx hb hts in10 hown hK (va_one at_70) 0 rfl rfl 23 (by decide) (hts (.fieldLink RX10 62 "RiverModelModel" "weight" "[I") (List.mem_of_getElem? (i := 10) rfl)) (fun _ h9 => h9) rfl dX10_warn_72 ?_
          refine lv_pc (pc2 := 75) rfl ?_
          refine lv_iconst (v := 3) hx hb dX10_warn_75 (by decide) ?_
          have b_90 : vp_in 3 4 := (q_in (by decide) (by decide))
          refine va_iald hx hb hK (va_one at_76) 0 0 rfl rfl b_90 dX10_warn_76 ?_
          refine lv_topi (fun x_91 e_92 => ?_)
          have w_x_91 : x_91 = gW 3 := by rw [e_92]; rfl
          have i_x_91 : x_91.toInt = (gW 3).toInt := by rw [w_x_91]
          refine lv_iadd hx hb dX10_warn_77 ?_
          refine lv_topi (fun x_93 e_94 => ?_)
          refine lv_istore (lv' := [(6, .int x_93), (0, .ref a0), (1, .int a1), (2, .int a2), (3, .long a3), (5, .int a4)]) hx hb dX10_warn_78 hl (by decide) rfl (fun ls hl => ?_)
          refine lv_aload_n hx hb dX10_warn_80 rfl (lv_at hl 1 rfl) ?_
          refine lv_iload_n hx hb dX10_warn_81 rfl (lv_at hl 2 rfl) ?_
          refine lv_iload_n hx hb dX10_warn_82 rfl (lv_at hl 3 rfl) ?_
          refine lv_lload_n hx hb dX10_warn_83 rfl (lv_at hl 4 rfl) ?_
          refine lv_pc (pc2 := 84) rfl ?_
          refine tx_calli (W.runV (As := [.int a1, .int a2, .long a3]) (rest := []) ⟨hx, hb, hml, hown, hts⟩ (m_X10_chanceOf l D t cI cL cC gC gE gW gA gT gI gS gM K F S N gH gJ ge gk gf gs gg gr RN a0 a1 a2 a3  uq (by omega) (by omega) (by omega) (by omega) hO0 (by omega) (by omega) (by omega) (by omega) (by omega) k_a0) (cwV 3 hts gu_X10_warn_X10_chanceOf_301 rfl rfl rfl (by decide +kernel) ⟨Nat.le_of_ble_eq_true rfl, Nat.le_of_ble_eq_true rfl⟩) (tP_V hG hE at_70 rfl) rfl rfl hl.1 rfl (lv_room (Nat.le_of_ble_eq_true rfl)) dX10_warn_84 ⟨Nat.le_of_ble_eq_true rfl, Nat.le_of_ble_eq_true rfl⟩) hS (wrL_sub (by decide)) (fun r_95 zz_98 H locs hp_96 hG hS o_97 => ?_)
          obtain ⟨gH_99, gJ_100⟩ := zz_98
          have at_70 := va_at.keptC at_70 o_97 k_a0 rfl
          have at_76 := va_at.keptC at_76 o_97 h_58 rfl
          replace hG : tG D (mF cI cL cC gC gE gW gA gT gI gS gM K F S N gH_99 gJ_100 ge gk gf gs gg gr RN) t H := hG
          have hp_96 : gH_99 = gH := hp_96
          have p_101 := hp_96
          refine lv_bipush (v := 100) hx hb dX10_warn_87 (by decide) ?_
          refine lv_imul hx hb dX10_warn_89 ?_
          refine lv_topi (fun x_102 e_103 => ?_)
          refine lv_iload hx hb dX10_warn_90 (lv_at hl 5 rfl) ?_
          refine lv_iload hx hb dX10_warn_92 (lv_at hl 0 rfl) ?_
          refine lv_imul hx hb dX10_warn_94 ?_
          refine lv_topi (fun x_104 e_105 => ?_)
          refine lv_icmp_lt (tgt := 102) hx hb dX10_warn_95 (by decide) (fun c_106 => ?_) (fun c_106 => ?_)
          · skip
            have c_106 : x_102.toInt < x_104.toInt := q_lt c_106
            refine lv_iconst (v := 0) hx hb dX10_warn_102 (by decide) ?_
            refine lv_pc (pc2 := 103) rfl ?_
            refine lv_istore (lv' := [(7, .int 0), (6, .int x_93), (0, .ref a0), (1, .int a1), (2, .int a2), (3, .long a3), (5, .int a4)]) hx hb dX10_warn_103 hl (by decide) rfl (fun ls hl => ?_)
            refine lv_aload_n hx hb dX10_warn_105 rfl (lv_at hl 2 rfl) ?_
            refine lv_iload_n hx hb dX10_warn_106 rfl (lv_at hl 3 rfl) ?_
            refine lv_iload_n hx hb dX10_warn_107 rfl (lv_at hl 4 rfl) ?_
            refine lv_iconst (v := (-1)) hx hb dX10_warn_108 (by decide) ?_
            have zi_m1 : ((-1) : Int32).toInt = (-1) := by decide
            refine tx_calll (W.runV (As := [.int a1, .int a2, .int (-1)]) (rest := []) ⟨hx, hb, hml, hown, hts⟩ (m_X10_peakBy l D t cI cL cC gC gE gW gA gT gI gS gM K F S N gH_99 gJ_100 ge gk gf gs gg gr RN a0 a1 a2 (-1)  uq (by omega) (by omega) (by omega) (by omega) hO0 (by omega) (by omega) (by omega) (by omega) (by omega) (by omega) (by omega) k_a0) (cwV 3 hts gu_X10_warn_X10_peakBy_291 rfl rfl rfl (by decide +kernel) ⟨Nat.le_of_ble_eq_true rfl, Nat.le_of_ble_eq_true rfl⟩) (tP_V hG hE at_70 rfl) rfl rfl hl.1 rfl (lv_room (Nat.le_of_ble_eq_true rfl)) dX10_warn_109 ⟨Nat.le_of_ble_eq_true rfl, Nat.le_of_ble_eq_true rfl⟩) hS (wrL_sub (by decide)) (fun z_107 zz_110 H locs hp_108 hG hS o_109 => ?_)
            obtain ⟨gH_111, gJ_112⟩ := zz_110
            have at_70 := va_at.keptC at_70 o_109 k_a0 rfl
            have at_76 := va_at.keptC at_76 o_109 h_58 rfl
            replace hG : tG D (mF cI cL cC gC gE gW gA gT gI gS gM K F S N gH_111 gJ_112 ge gk gf gs gg gr RN) t H := hG
            have hp_108 : gH_111 = gH_99 := hp_108
            have p_113 := hp_108
            refine lv_lload_n hx hb dX10_warn_112 rfl (lv_at hl 5 rfl) ?_
            refine W.lcmp hx hb dX10_warn_113 ?_
            refine lv_pc (pc2 := 114) rfl ?_
            refine lv_if_le (tgt := 121) hx hb dX10_warn_114 (by decide) (fun c_114 => ?_) (fun c_114 => ?_)
            · skip
              have c_114 : z_107.toInt ≤ a3.toInt := q_cmp_le c_114
              refine lv_iconst (v := 0) hx hb dX10_warn_121 (by decide) ?_
              refine lv_istore (lv' := [(8, .int 0), (7, .int 0), (6, .int x_93), (0, .ref a0), (1, .int a1), (2, .int a2), (3, .long a3), (5, .int a4)]) hx hb dX10_warn_122 hl (by decide) rfl (fun ls hl => ?_)
              refine lv_aload_n hx hb dX10_warn_124 rfl (lv_at hl 3 rfl) ?_
              refine va_get (D := D) (ci := 9) (v := .ref r_61) (C := RX10) (T := TX10) (N := 36) hx hb hts in10 hown hK (va_one at_70) 0 rfl rfl 25 (by decide) (hts (.fieldLink RX10 68 "RiverModelModel" "booked" "[I") (List.mem_of_getElem? (i := 17) rfl)) (fun _ h9 => h9) rfl dX10_warn_125 ?_
              refine lv_iload hx hb dX10_warn_128 (lv_at hl 1 rfl) ?_
              refine lv_if_eq (tgt := 146) hx hb dX10_warn_130 (by decide) (fun _ => ?_) (fun q => absurd (by decide) q)
              refine lv_iload hx hb dX10_warn_146 (lv_at hl 0 rfl) ?_
              refine lv_pc (pc2 := 148) rfl ?_
              refine lv_if_eq (tgt := 155) hx hb dX10_warn_148 (by decide) (fun _ => ?_) (fun q => absurd (by decide) q)
              refine lv_iconst (v := 3) hx hb dX10_warn_155 (by decide) ?_
              refine lv_dup2_11 hx hb dX10_warn_156 rfl rfl ?_
              obtain ⟨f_115, at_116⟩ := mF_o60 hG h_62
              have b_117 : vp_in 3 4 := (q_in (by decide) (by decide))
              refine va_iald hx hb hK (va_one at_116) 0 0 rfl rfl b_117 dX10_warn_157 ?_
              refine lv_topi (fun x_118 e_119 => ?_)
              refine lv_iconst (v := 1) hx hb dX10_warn_158 (by decide) ?_
              refine lv_iadd hx hb dX10_warn_159 ?_
              refine lv_topi (fun x_120 e_121 => ?_)
              have b_122 : vp_in 3 4 := (q_in (by decide) (by decide))
              have zi_3 : (3 : Int32).toInt = 3 := by decide
              refine ty_iast (F2 := (mF cI cL cC gC gE gW gA gT gI gS gM K F S N gH_111 gJ_112 ge gk gf gs gg gr RN)) hx hb hK hG hS 0 at_116 (by rw [h_62]; rfl) rfl b_122 (by rw [h_62]; exact ⟨_, rfl⟩) tFF dX10_warn_160 (fun H locs hG hS at_123 o_124 => ?_)
              have at_70 := va_at.keptK at_70 o_124 h_62 k_a0 rfl
              have at_76 := va_at.keptK at_76 o_124 h_62 h_58 rfl
              refine lv_iload hx hb dX10_warn_161 (lv_at hl 1 rfl) ?_
              refine lv_pc (pc2 := 163) rfl ?_
              refine lv_if_eq (tgt := 170) hx hb dX10_warn_163 (by decide) (fun _ => ?_) (fun q => absurd (by decide) q)
              refine lv_iconst (v := 0) hx hb dX10_warn_170 (by decide) ?_
              have zi_0 : (0 : Int32).toInt = 0 := by decide
              exact tx_iret (z := (gH_111, gJ_112)) hx hb hr hlk hG hS ⟨(by show 0 ≤ gH_111; omega), (by show gH_111 ≤ 96; omega)⟩ dX10_warn_171
            · skip
              have c_114 : a3.toInt < z_107.toInt := q_cmp_nle c_114
              refine lv_iconst (v := 1) hx hb dX10_warn_117 (by decide) ?_
              refine lv_goto (tgt := 122) hx hb dX10_warn_118 (by decide) ?_
              refine lv_istore (lv' := [(8, .int 1), (7, .int 0), (6, .int x_93), (0, .ref a0), (1, .int a1), (2, .int a2), (3, .long a3), (5, .int a4)]) hx hb dX10_warn_122 hl (by decide) rfl (fun ls hl => ?_)
              refine lv_aload_n hx hb dX10_warn_124 rfl (lv_at hl 3 rfl) ?_
              refine va_get (D := D) (ci := 9) (v := .ref r_61) (C := RX10) (T := TX10) (N := 36) hx hb hts in10 hown hK (va_one at_70) 0 rfl rfl 25 (by decide) (hts (.fieldLink RX10 68 "RiverModelModel" "booked" "[I") (List.mem_of_getElem? (i := 17) rfl)) (fun _ h9 => h9) rfl dX10_warn_125 ?_
              refine lv_pc (pc2 := 128) rfl ?_
              refine lv_iload hx hb dX10_warn_128 (lv_at hl 1 rfl) ?_
              refine lv_if_eq (tgt := 146) hx hb dX10_warn_130 (by decide) (fun _ => ?_) (fun q => absurd (by decide) q)
              refine lv_iload hx hb dX10_warn_146 (lv_at hl 0 rfl) ?_
              refine lv_if_eq (tgt := 155) hx hb dX10_warn_148 (by decide) (fun q => absurd q (by decide)) (fun _ => ?_)
              refine lv_iconst (v := 2) hx hb dX10_warn_151 (by decide) ?_
              refine lv_goto (tgt := 156) hx hb dX10_warn_152 (by decide) ?_
              refine lv_dup2_11 hx hb dX10_warn_156 rfl rfl ?_
              obtain ⟨f_125, at_126⟩ := mF_o60 hG h_62
              have b_127 : vp_in 2 4 := (q_in (by decide) (by decide))
              refine va_iald hx hb hK (va_one at_126) 0 0 rfl rfl b_127 dX10_warn_157 ?_
              refine lv_topi (fun x_128 e_129 => ?_)
              refine lv_pc (pc2 := 158) rfl ?_
              refine lv_iconst (v := 1) hx hb dX10_warn_158 (by decide) ?_
              refine lv_iadd hx hb dX10_warn_159 ?_
              refine lv_topi (fun x_130 e_131 => ?_)
              have b_132 : vp_in 2 4 := (q_in (by decide) (by decide))
              have zi_2 : (2 : Int32).toInt = 2 := by decide
              refine ty_iast (F2 := (mF cI cL cC gC gE gW gA gT gI gS gM K F S N gH_111 gJ_112 ge gk gf gs gg gr RN)) hx hb hK hG hS 0 at_126 (by rw [h_62]; rfl) rfl b_132 (by rw [h_62]; exact ⟨_, rfl⟩) tFF dX10_warn_160 (fun H locs hG hS at_133 o_134 => ?_)
              have at_70 := va_at.keptK at_70 o_134 h_62 k_a0 rfl
              have at_76 := va_at.keptK at_76 o_134 h_62 h_58 rfl
              refine lv_iload hx hb dX10_warn_161 (lv_at hl 1 rfl) ?_
              refine lv_if_eq (tgt := 170) hx hb dX10_warn_163 (by decide) (fun _ => ?_) (fun q => absurd (by decide) q)
              refine lv_iconst (v := 0) hx hb dX10_warn_170 (by decide) ?_
              have zi_0 : (0 : Int32).toInt = 0 := by decide
              exact tx_iret (z := (gH_111, gJ_112)) hx hb hr hlk hG hS ⟨(by show 0 ≤ gH_111; omega), (by show gH_111 ≤ 96; omega)⟩ dX10_warn_171
          · skip
            have c_106 : x_104.toInt ≤ x_102.toInt := q_nlt c_106
            refine lv_iconst (v := 1) hx hb dX10_warn_98 (by decide) ?_
            refine lv_pc (pc2 := 99) rfl ?_
            refine lv_goto (tgt := 103) hx hb dX10_warn_99 (by decide) ?_
            refine lv_istore (lv' := [(7, .int 1), (6, .int x_93), (0, .ref a0), (1, .int a1), (2, .int a2), (3, .long a3), (5, .int a4)]) hx hb dX10_warn_103 hl (by decide) rfl (fun ls hl => ?_)
            refine lv_aload_n hx hb dX10_warn_105 rfl (lv_at hl 2 rfl) ?_
            refine lv_iload_n hx hb dX10_warn_106 rfl (lv_at hl 3 rfl) ?_
            refine lv_iload_n hx hb dX10_warn_107 rfl (lv_at hl 4 rfl) ?_
            refine lv_iconst (v := (-1)) hx hb dX10_warn_108 (by decide) ?_
            have zi_m1 : ((-1) : Int32).toInt = (-1) := by decide
            refine tx_calll (W.runV (As := [.int a1, .int a2, .int (-1)]) (rest := []) ⟨hx, hb, hml, hown, hts⟩ (m_X10_peakBy l D t cI cL cC gC gE gW gA gT gI gS gM K F S N gH_99 gJ_100 ge gk gf gs gg gr RN a0 a1 a2 (-1)  uq (by omega) (by omega) (by omega) (by omega) hO0 (by omega) (by omega) (by omega) (by omega) (by omega) (by omega) (by omega) k_a0) (cwV 3 hts gu_X10_warn_X10_peakBy_291 rfl rfl rfl (by decide +kernel) ⟨Nat.le_of_ble_eq_true rfl, Nat.le_of_ble_eq_true rfl⟩) (tP_V hG hE at_70 rfl) rfl rfl hl.1 rfl (lv_room (Nat.le_of_ble_eq_true rfl)) dX10_warn_109 ⟨Nat.le_of_ble_eq_true rfl, Nat.le_of_ble_eq_true rfl⟩) hS (wrL_sub (by decide)) (fun z_135 zz_138 H locs hp_136 hG hS o_137 => ?_)
            obtain ⟨gH_139, gJ_140⟩ := zz_138
            have at_70 := va_at.keptC at_70 o_137 k_a0 rfl
            have at_76 := va_at.keptC at_76 o_137 h_58 rfl
            replace hG : tG D (mF cI cL cC gC gE gW gA gT gI gS gM K F S N gH_139 gJ_140 ge gk gf gs gg gr RN) t H := hG
            have hp_136 : gH_139 = gH_99 := hp_136
            have p_141 := hp_136
            refine lv_lload_n hx hb dX10_warn_112 rfl (lv_at hl 5 rfl) ?_
            refine lv_pc (pc2 := 113) rfl ?_
            refine W.lcmp hx hb dX10_warn_113 ?_
            refine lv_if_le (tgt := 121) hx hb dX10_warn_114 (by decide) (fun c_142 => ?_) (fun c_142 => ?_)
            · skip
              have c_142 : z_135.toInt ≤ a3.toInt := q_cmp_le c_142
              refine lv_iconst (v := 0) hx hb dX10_warn_121 (by decide) ?_
              refine lv_istore (lv' := [(8, .int 0), (7, .int 1), (6, .int x_93), (0, .ref a0), (1, .int a1), (2, .int a2), (3, .long a3), (5, .int a4)]) hx hb dX10_warn_122 hl (by decide) rfl (fun ls hl => ?_)
              refine lv_aload_n hx hb dX10_warn_124 rfl (lv_at hl 3 rfl) ?_
              refine va_get (D := D) (ci := 9) (v := .ref r_61) (C := RX10) (T := TX10) (N := 36) hx hb hts in10 hown hK (va_one at_70) 0 rfl rfl 25 (by decide) (hts (.fieldLink RX10 68 "RiverModelModel" "booked" "[I") (List.mem_of_getElem? (i := 17) rfl)) (fun _ h9 => h9) rfl dX10_warn_125 ?_
              refine lv_iload hx hb dX10_warn_128 (lv_at hl 1 rfl) ?_
              refine lv_if_eq (tgt := 146) hx hb dX10_warn_130 (by decide) (fun q => absurd q (by decide)) (fun _ => ?_)
              refine lv_pc (pc2 := 133) rfl ?_
              refine lv_iload hx hb dX10_warn_133 (lv_at hl 0 rfl) ?_
              refine lv_if_eq (tgt := 142) hx hb dX10_warn_135 (by decide) (fun _ => ?_) (fun q => absurd (by decide) q)
              refine lv_iconst (v := 1) hx hb dX10_warn_142 (by decide) ?_
              refine lv_goto (tgt := 156) hx hb dX10_warn_143 (by decide) ?_
              refine lv_dup2_11 hx hb dX10_warn_156 rfl rfl ?_
              obtain ⟨f_143, at_144⟩ := mF_o60 hG h_62
              have b_145 : vp_in 1 4 := (q_in (by decide) (by decide))
              refine va_iald hx hb hK (va_one at_144) 0 0 rfl rfl b_145 dX10_warn_157 ?_
              refine lv_topi (fun x_146 e_147 => ?_)
              refine lv_iconst (v := 1) hx hb dX10_warn_158 (by decide) ?_
              refine lv_iadd hx hb dX10_warn_159 ?_
              refine lv_topi (fun x_148 e_149 => ?_)
              refine lv_pc (pc2 := 160) rfl ?_
              have b_150 : vp_in 1 4 := (q_in (by decide) (by decide))
              have zi_1 : (1 : Int32).toInt = 1 := by decide
              refine ty_iast (F2 := (mF cI cL cC gC gE gW gA gT gI gS gM K F S N gH_139 gJ_140 ge gk gf gs gg gr RN)) hx hb hK hG hS 0 at_144 (by rw [h_62]; rfl) rfl b_150 (by rw [h_62]; exact ⟨_, rfl⟩) tFF dX10_warn_160 (fun H locs hG hS at_151 o_152 => ?_)
              have at_70 := va_at.keptK at_70 o_152 h_62 k_a0 rfl
              have at_76 := va_at.keptK at_76 o_152 h_62 h_58 rfl
              refine lv_iload hx hb dX10_warn_161 (lv_at hl 1 rfl) ?_
              refine lv_if_eq (tgt := 170) hx hb dX10_warn_163 (by decide) (fun q => absurd q (by decide)) (fun _ => ?_)
              refine lv_iconst (v := 1) hx hb dX10_warn_166 (by decide) ?_
              refine lv_goto (tgt := 171) hx hb dX10_warn_167 (by decide) ?_
              exact tx_iret (z := (gH_139, gJ_140)) hx hb hr hlk hG hS ⟨(by show 0 ≤ gH_139; omega), (by show gH_139 ≤ 96; omega)⟩ dX10_warn_171
            · skip
              have c_142 : a3.toInt < z_135.toInt := q_cmp_nle c_142
              refine lv_iconst (v := 1) hx hb dX10_warn_117 (by decide) ?_
              refine lv_goto (tgt := 122) hx hb dX10_warn_118 (by decide) ?_
              refine lv_pc (pc2 := 122) rfl ?_
              refine lv_istore (lv' := [(8, .int 1), (7, .int 1), (6, .int x_93), (0, .ref a0), (1, .int a1), (2, .int a2), (3, .long a3), (5, .int a4)]) hx hb dX10_warn_122 hl (by decide) rfl (fun ls hl => ?_)
              refine lv_aload_n hx hb dX10_warn_124 rfl (lv_at hl 3 rfl) ?_
              refine va_get (D := D) (ci := 9) (v := .ref r_61) (C := RX10) (T := TX10) (N := 36) hx hb hts in10 hown hK (va_one at_70) 0 rfl rfl 25 (by decide) (hts (.fieldLink RX10 68 "RiverModelModel" "booked" "[I") (List.mem_of_getElem? (i := 17) rfl)) (fun _ h9 => h9) rfl dX10_warn_125 ?_
              refine lv_iload hx hb dX10_warn_128 (lv_at hl 1 rfl) ?_
              refine lv_if_eq (tgt := 146) hx hb dX10_warn_130 (by decide) (fun q => absurd q (by decide)) (fun _ => ?_)
              refine lv_iload hx hb dX10_warn_133 (lv_at hl 0 rfl) ?_
              refine lv_if_eq (tgt := 142) hx hb dX10_warn_135 (by decide) (fun q => absurd q (by decide)) (fun _ => ?_)
              refine lv_iconst (v := 0) hx hb dX10_warn_138 (by decide) ?_
              refine lv_pc (pc2 := 139) rfl ?_
              refine lv_goto (tgt := 156) hx hb dX10_warn_139 (by decide) ?_
              refine lv_dup2_11 hx hb dX10_warn_156 rfl rfl ?_
              obtain ⟨f_153, at_154⟩ := mF_o60 hG h_62
              have b_155 : vp_in 0 4 := (q_in (by decide) (by decide))
              refine va_iald hx hb hK (va_one at_154) 0 0 rfl rfl b_155 dX10_warn_157 ?_
              refine lv_topi (fun x_156 e_157 => ?_)
              refine lv_iconst (v := 1) hx hb dX10_warn_158 (by decide) ?_
              refine lv_iadd hx hb dX10_warn_159 ?_
              refine lv_topi (fun x_158 e_159 => ?_)
              have b_160 : vp_in 0 4 := (q_in (by decide) (by decide))
              have zi_0 : (0 : Int32).toInt = 0 := by decide
              refine ty_iast (F2 := (mF cI cL cC gC gE gW gA gT gI gS gM K F S N gH_139 gJ_140 ge gk gf gs gg gr RN)) hx hb hK hG hS 0 at_154 (by rw [h_62]; rfl) rfl b_160 (by rw [h_62]; exact ⟨_, rfl⟩) tFF dX10_warn_160 (fun H locs hG hS at_161 o_162 => ?_)
              have at_70 := va_at.keptK at_70 o_162 h_62 k_a0 rfl
              have at_76 := va_at.keptK at_76 o_162 h_62 h_58 rfl
              refine lv_iload hx hb dX10_warn_161 (lv_at hl 1 rfl) ?_
              refine lv_if_eq (tgt := 170) hx hb dX10_warn_163 (by decide) (fun q => absurd q (by decide)) (fun _ => ?_)
              refine lv_pc (pc2 := 166) rfl ?_
              refine lv_iconst (v := 1) hx hb dX10_warn_166 (by decide) ?_
              refine lv_goto (tgt := 171) hx hb dX10_warn_167 (by decide) ?_
              have zi_1 : (1 : Int32).toInt = 1 := by decide
              exact tx_iret (z := (gH_139, gJ_140)) hx hb hr hlk hG hS ⟨(by show 0 ≤ gH_139; omega), (by show gH_139 ≤ 96; omega)⟩ dX10_warn_171
        · skip
          refine lv_if_ne (tgt := 51) hx hb dX10_warn_45 (by decide) (fun q => absurd rfl q) (fun _ => ?_)
          refine lv_bipush (v := (-2)) hx hb dX10_warn_48 (by decide) ?_
          have zi_m2 : ((-2) : Int32).toInt = (-2) := by decide
          exact tx_iret (z := (gH, gJ)) hx hb hr hlk hG hS ⟨(by show 0 ≤ gH; omega), (by show gH ≤ 96; omega)⟩ dX10_warn_50
      · skip
        refine lv_if_ne (tgt := 39) hx hb dX10_warn_34 (by decide) (fun q => absurd rfl q) (fun _ => ?_)
        refine lv_iconst (v := (-1)) hx hb dX10_warn_37 (by decide) ?_
        refine lv_pc (pc2 := 38) rfl ?_
        have zi_m1 : ((-1) : Int32).toInt = (-1) := by decide
        exact tx_iret (z := (gH, gJ)) hx hb hr hlk hG hS ⟨(by show 0 ≤ gH; omega), (by show gH ≤ 96; omega)⟩ dX10_warn_38
    · skip
      refine lv_if_eq (tgt := 37) hx hb dX10_warn_21 (by decide) (fun _ => ?_) (fun q => absurd (by decide) q)
      refine lv_iconst (v := (-1)) hx hb dX10_warn_37 (by decide) ?_
      have zi_m1 : ((-1) : Int32).toInt = (-1) := by decide
      exact tx_iret (z := (gH, gJ)) hx hb hr hlk hG hS ⟨(by show 0 ≤ gH; omega), (by show gH ≤ 96; omega)⟩ dX10_warn_38
  · skip
    refine lv_if_eq (tgt := 37) hx hb dX10_warn_9 (by decide) (fun _ => ?_) (fun q => absurd (by decide) q)
    refine lv_iconst (v := (-1)) hx hb dX10_warn_37 (by decide) ?_
    have zi_m1 : ((-1) : Int32).toInt = (-1) := by decide
    exact tx_iret (z := (gH, gJ)) hx hb hr hlk hG hS ⟨(by show 0 ≤ gH; omega), (by show gH ≤ 96; omega)⟩ dX10_warn_38
