theorem dX0_goHourBy_0 : decode cX0_goHourBy 0 = .ok (.aload_n 0, 1) := by decide +kernel
theorem dX0_goHourBy_1 : decode cX0_goHourBy 1 = .ok (.aload_n 1, 1) := by decide +kernel
theorem dX0_goHourBy_2 : decode cX0_goHourBy 2 = .ok (.aload_n 2, 1) := by decide +kernel
theorem dX0_goHourBy_3 : decode cX0_goHourBy 3 = .ok (.aload_n 0, 1) := by decide +kernel
theorem dX0_goHourBy_4 : decode cX0_goHourBy 4 = .ok (.getfield 35, 3) := by decide +kernel
theorem dX0_goHourBy_7 : decode cX0_goHourBy 7 = .ok (.invokevirtual 60, 3) := by decide +kernel
theorem dX0_goHourBy_10 : decode cX0_goHourBy 10 = .ok (.aload_n 2, 1) := by decide +kernel
theorem dX0_goHourBy_11 : decode cX0_goHourBy 11 = .ok (.aload_n 0, 1) := by decide +kernel
theorem dX0_goHourBy_12 : decode cX0_goHourBy 12 = .ok (.getfield 35, 3) := by decide +kernel
theorem dX0_goHourBy_15 : decode cX0_goHourBy 15 = .ok (.invokevirtual 65, 3) := by decide +kernel
theorem dX0_goHourBy_18 : decode cX0_goHourBy 18 = .ok (.invokevirtual 68, 3) := by decide +kernel
theorem dX0_goHourBy_21 : decode cX0_goHourBy 21 = .ok (.return_, 1) := by decide +kernel
theorem dX0_goHour_0 : decode cX0_goHour 0 = .ok (.aload_n 0, 1) := by decide +kernel
theorem dX0_goHour_1 : decode cX0_goHour 1 = .ok (.invokevirtual 72, 3) := by decide +kernel
theorem dX0_goHour_4 : decode cX0_goHour 4 = .ok (.iconst 0, 1) := by decide +kernel
theorem dX0_goHour_5 : decode cX0_goHour 5 = .ok (.istore 4, 2) := by decide +kernel
theorem dX0_goHour_7 : decode cX0_goHour 7 = .ok (.iload 4, 2) := by decide +kernel
theorem dX0_goHour_9 : decode cX0_goHour 9 = .ok (.aload_n 1, 1) := by decide +kernel
theorem dX0_goHour_10 : decode cX0_goHour 10 = .ok (.getfield 75, 3) := by decide +kernel
theorem dX0_goHour_13 : decode cX0_goHour 13 = .ok (.if_icmp .ge 45, 3) := by decide +kernel
theorem dX0_goHour_16 : decode cX0_goHour 16 = .ok (.iload 4, 2) := by decide +kernel
theorem dX0_goHour_18 : decode cX0_goHour 18 = .ok (.bipush 40, 2) := by decide +kernel
theorem dX0_goHour_20 : decode cX0_goHour 20 = .ok (.if_icmp .ge 38, 3) := by decide +kernel
theorem dX0_goHour_23 : decode cX0_goHour 23 = .ok (.aload_n 0, 1) := by decide +kernel
theorem dX0_goHour_24 : decode cX0_goHour 24 = .ok (.aload_n 1, 1) := by decide +kernel
theorem dX0_goHour_25 : decode cX0_goHour 25 = .ok (.iload 4, 2) := by decide +kernel
theorem dX0_goHour_27 : decode cX0_goHour 27 = .ok (.iload_n 2, 1) := by decide +kernel
theorem dX0_goHour_28 : decode cX0_goHour 28 = .ok (.iload_n 3, 1) := by decide +kernel
theorem dX0_goHour_29 : decode cX0_goHour 29 = .ok (.invokevirtual 78, 3) := by decide +kernel
theorem dX0_goHour_32 : decode cX0_goHour 32 = .ok (.lstore 5, 2) := by decide +kernel
theorem dX0_goHour_34 : decode cX0_goHour 34 = .ok (.aload_n 0, 1) := by decide +kernel
theorem dX0_goHour_35 : decode cX0_goHour 35 = .ok (.getfield 15, 3) := by decide +kernel
theorem dX0_goHour_38 : decode cX0_goHour 38 = .ok (.iload 4, 2) := by decide +kernel
theorem dX0_goHour_40 : decode cX0_goHour 40 = .ok (.lload 5, 2) := by decide +kernel
theorem dX0_goHour_42 : decode cX0_goHour 42 = .ok (.lastore, 1) := by decide +kernel
theorem dX0_goHour_43 : decode cX0_goHour 43 = .ok (.aload_n 0, 1) := by decide +kernel
theorem dX0_goHour_44 : decode cX0_goHour 44 = .ok (.aload_n 1, 1) := by decide +kernel
theorem dX0_goHour_45 : decode cX0_goHour 45 = .ok (.iload 4, 2) := by decide +kernel
theorem dX0_goHour_47 : decode cX0_goHour 47 = .ok (.lload 5, 2) := by decide +kernel
theorem dX0_goHour_49 : decode cX0_goHour 49 = .ok (.invokevirtual 82, 3) := by decide +kernel
theorem dX0_goHour_52 : decode cX0_goHour 52 = .ok (.iinc 4 1, 3) := by decide +kernel
theorem dX0_goHour_55 : decode cX0_goHour 55 = .ok (.goto (-48), 3) := by decide +kernel
theorem dX0_goHour_58 : decode cX0_goHour 58 = .ok (.aload_n 0, 1) := by decide +kernel
theorem dX0_goHour_59 : decode cX0_goHour 59 = .ok (.dup, 1) := by decide +kernel
theorem dX0_goHour_60 : decode cX0_goHour 60 = .ok (.getfield 35, 3) := by decide +kernel
theorem dX0_goHour_63 : decode cX0_goHour 63 = .ok (.iconst 1, 1) := by decide +kernel
theorem dX0_goHour_64 : decode cX0_goHour 64 = .ok (.iadd, 1) := by decide +kernel
theorem dX0_goHour_65 : decode cX0_goHour 65 = .ok (.putfield 35, 3) := by decide +kernel
theorem dX0_goHour_68 : decode cX0_goHour 68 = .ok (.return_, 1) := by decide +kernel
theorem dX0_heldByAll_0 : decode cX0_heldByAll 0 = .ok (.lconst 0, 1) := by decide +kernel
theorem dX0_heldByAll_1 : decode cX0_heldByAll 1 = .ok (.lstore_n 1, 1) := by decide +kernel
theorem dX0_heldByAll_2 : decode cX0_heldByAll 2 = .ok (.iconst 0, 1) := by decide +kernel
theorem dX0_heldByAll_3 : decode cX0_heldByAll 3 = .ok (.istore_n 3, 1) := by decide +kernel
theorem dX0_heldByAll_4 : decode cX0_heldByAll 4 = .ok (.iload_n 3, 1) := by decide +kernel
theorem dX0_heldByAll_5 : decode cX0_heldByAll 5 = .ok (.bipush 16, 2) := by decide +kernel
theorem dX0_heldByAll_7 : decode cX0_heldByAll 7 = .ok (.if_icmp .ge 18, 3) := by decide +kernel
theorem dX0_heldByAll_10 : decode cX0_heldByAll 10 = .ok (.lload_n 1, 1) := by decide +kernel
theorem dX0_heldByAll_11 : decode cX0_heldByAll 11 = .ok (.aload_n 0, 1) := by decide +kernel
theorem dX0_heldByAll_12 : decode cX0_heldByAll 12 = .ok (.getfield 9, 3) := by decide +kernel
theorem dX0_heldByAll_15 : decode cX0_heldByAll 15 = .ok (.iload_n 3, 1) := by decide +kernel
theorem dX0_heldByAll_16 : decode cX0_heldByAll 16 = .ok (.laload, 1) := by decide +kernel
theorem dX0_heldByAll_17 : decode cX0_heldByAll 17 = .ok (.ladd, 1) := by decide +kernel
theorem dX0_heldByAll_18 : decode cX0_heldByAll 18 = .ok (.lstore_n 1, 1) := by decide +kernel
theorem dX0_heldByAll_19 : decode cX0_heldByAll 19 = .ok (.iinc 3 1, 3) := by decide +kernel
theorem dX0_heldByAll_22 : decode cX0_heldByAll 22 = .ok (.goto (-18), 3) := by decide +kernel
theorem dX0_heldByAll_25 : decode cX0_heldByAll 25 = .ok (.lload_n 1, 1) := by decide +kernel
theorem dX0_heldByAll_26 : decode cX0_heldByAll 26 = .ok (.lreturn, 1) := by decide +kernel
theorem dX0_underWayTo_0 : decode cX0_underWayTo 0 = .ok (.lconst 0, 1) := by decide +kernel
theorem dX0_underWayTo_1 : decode cX0_underWayTo 1 = .ok (.lstore_n 2, 1) := by decide +kernel
theorem dX0_underWayTo_2 : decode cX0_underWayTo 2 = .ok (.iconst 0, 1) := by decide +kernel
theorem dX0_underWayTo_3 : decode cX0_underWayTo 3 = .ok (.istore 4, 2) := by decide +kernel
theorem dX0_underWayTo_5 : decode cX0_underWayTo 5 = .ok (.iload 4, 2) := by decide +kernel
theorem dX0_underWayTo_7 : decode cX0_underWayTo 7 = .ok (.bipush 13, 2) := by decide +kernel
theorem dX0_underWayTo_9 : decode cX0_underWayTo 9 = .ok (.if_icmp .ge 31, 3) := by decide +kernel
theorem dX0_underWayTo_12 : decode cX0_underWayTo 12 = .ok (.iload_n 1, 1) := by decide +kernel
theorem dX0_underWayTo_13 : decode cX0_underWayTo 13 = .ok (.invokestatic 90, 3) := by decide +kernel
theorem dX0_underWayTo_16 : decode cX0_underWayTo 16 = .ok (.ifCond .ne 24, 3) := by decide +kernel
theorem dX0_underWayTo_19 : decode cX0_underWayTo 19 = .ok (.lload_n 2, 1) := by decide +kernel
theorem dX0_underWayTo_20 : decode cX0_underWayTo 20 = .ok (.aload_n 0, 1) := by decide +kernel
theorem dX0_underWayTo_21 : decode cX0_underWayTo 21 = .ok (.getfield 22, 3) := by decide +kernel
theorem dX0_underWayTo_24 : decode cX0_underWayTo 24 = .ok (.iload 4, 2) := by decide +kernel
theorem dX0_underWayTo_26 : decode cX0_underWayTo 26 = .ok (.bipush 16, 2) := by decide +kernel
theorem dX0_underWayTo_28 : decode cX0_underWayTo 28 = .ok (.imul, 1) := by decide +kernel
theorem dX0_underWayTo_29 : decode cX0_underWayTo 29 = .ok (.iload_n 1, 1) := by decide +kernel
theorem dX0_underWayTo_30 : decode cX0_underWayTo 30 = .ok (.iadd, 1) := by decide +kernel
theorem dX0_underWayTo_31 : decode cX0_underWayTo 31 = .ok (.laload, 1) := by decide +kernel
theorem dX0_underWayTo_32 : decode cX0_underWayTo 32 = .ok (.ladd, 1) := by decide +kernel
theorem dX0_underWayTo_33 : decode cX0_underWayTo 33 = .ok (.lstore_n 2, 1) := by decide +kernel
theorem dX0_underWayTo_34 : decode cX0_underWayTo 34 = .ok (.iinc 4 1, 3) := by decide +kernel
theorem dX0_underWayTo_37 : decode cX0_underWayTo 37 = .ok (.goto (-32), 3) := by decide +kernel
theorem dX0_underWayTo_40 : decode cX0_underWayTo 40 = .ok (.lload_n 2, 1) := by decide +kernel
theorem dX0_underWayTo_41 : decode cX0_underWayTo 41 = .ok (.lreturn, 1) := by decide +kernel
theorem dX0_underWayToAll_0 : decode cX0_underWayToAll 0 = .ok (.lconst 0, 1) := by decide +kernel
theorem dX0_underWayToAll_1 : decode cX0_underWayToAll 1 = .ok (.lstore_n 1, 1) := by decide +kernel
theorem dX0_underWayToAll_2 : decode cX0_underWayToAll 2 = .ok (.iconst 0, 1) := by decide +kernel
theorem dX0_underWayToAll_3 : decode cX0_underWayToAll 3 = .ok (.istore_n 3, 1) := by decide +kernel
theorem dX0_underWayToAll_4 : decode cX0_underWayToAll 4 = .ok (.iload_n 3, 1) := by decide +kernel
theorem dX0_underWayToAll_5 : decode cX0_underWayToAll 5 = .ok (.aload_n 0, 1) := by decide +kernel
theorem dX0_underWayToAll_6 : decode cX0_underWayToAll 6 = .ok (.getfield 22, 3) := by decide +kernel
theorem dX0_underWayToAll_9 : decode cX0_underWayToAll 9 = .ok (.arraylength, 1) := by decide +kernel
theorem dX0_underWayToAll_10 : decode cX0_underWayToAll 10 = .ok (.if_icmp .ge 18, 3) := by decide +kernel
theorem dX0_underWayToAll_13 : decode cX0_underWayToAll 13 = .ok (.lload_n 1, 1) := by decide +kernel
theorem dX0_underWayToAll_14 : decode cX0_underWayToAll 14 = .ok (.aload_n 0, 1) := by decide +kernel
theorem dX0_underWayToAll_15 : decode cX0_underWayToAll 15 = .ok (.getfield 22, 3) := by decide +kernel
theorem dX0_underWayToAll_18 : decode cX0_underWayToAll 18 = .ok (.iload_n 3, 1) := by decide +kernel
theorem dX0_underWayToAll_19 : decode cX0_underWayToAll 19 = .ok (.laload, 1) := by decide +kernel
theorem dX0_underWayToAll_20 : decode cX0_underWayToAll 20 = .ok (.ladd, 1) := by decide +kernel
theorem dX0_underWayToAll_21 : decode cX0_underWayToAll 21 = .ok (.lstore_n 1, 1) := by decide +kernel
theorem dX0_underWayToAll_22 : decode cX0_underWayToAll 22 = .ok (.iinc 3 1, 3) := by decide +kernel
theorem dX0_underWayToAll_25 : decode cX0_underWayToAll 25 = .ok (.goto (-21), 3) := by decide +kernel
theorem dX0_underWayToAll_28 : decode cX0_underWayToAll 28 = .ok (.lload_n 1, 1) := by decide +kernel
theorem dX0_underWayToAll_29 : decode cX0_underWayToAll 29 = .ok (.lreturn, 1) := by decide +kernel
theorem dX1_unsetAll_0 : decode cX1_unsetAll 0 = .ok (.aload_n 0, 1) := by decide +kernel
theorem dX1_unsetAll_1 : decode cX1_unsetAll 1 = .ok (.getfield 9, 3) := by decide +kernel
theorem dX1_unsetAll_4 : decode cX1_unsetAll 4 = .ok (.bipush (-4), 2) := by decide +kernel
theorem dX1_unsetAll_6 : decode cX1_unsetAll 6 = .ok (.invokestatic 25, 3) := by decide +kernel
theorem dX1_unsetAll_9 : decode cX1_unsetAll 9 = .ok (.aload_n 0, 1) := by decide +kernel
theorem dX1_unsetAll_10 : decode cX1_unsetAll 10 = .ok (.getfield 18, 3) := by decide +kernel
theorem dX1_unsetAll_13 : decode cX1_unsetAll 13 = .ok (.iconst (-1), 1) := by decide +kernel
theorem dX1_unsetAll_14 : decode cX1_unsetAll 14 = .ok (.invokestatic 25, 3) := by decide +kernel
theorem dX1_unsetAll_17 : decode cX1_unsetAll 17 = .ok (.return_, 1) := by decide +kernel
theorem dX1_set_0 : decode cX1_set 0 = .ok (.iload_n 1, 1) := by decide +kernel
theorem dX1_set_1 : decode cX1_set 1 = .ok (.invokestatic 31, 3) := by decide +kernel
theorem dX1_set_4 : decode cX1_set 4 = .ok (.ifCond .eq 4, 3) := by decide +kernel
theorem dX1_set_7 : decode cX1_set 7 = .ok (.return_, 1) := by decide +kernel
theorem dX1_set_8 : decode cX1_set 8 = .ok (.aload_n 0, 1) := by decide +kernel
theorem dX1_set_9 : decode cX1_set 9 = .ok (.getfield 9, 3) := by decide +kernel
theorem dX1_set_12 : decode cX1_set 12 = .ok (.iload_n 1, 1) := by decide +kernel
theorem dX1_set_13 : decode cX1_set 13 = .ok (.iload_n 2, 1) := by decide +kernel
theorem dX1_set_14 : decode cX1_set 14 = .ok (.iastore, 1) := by decide +kernel
theorem dX1_set_15 : decode cX1_set 15 = .ok (.aload_n 0, 1) := by decide +kernel
theorem dX1_set_16 : decode cX1_set 16 = .ok (.getfield 15, 3) := by decide +kernel
theorem dX1_set_19 : decode cX1_set 19 = .ok (.iload_n 1, 1) := by decide +kernel
theorem dX1_set_20 : decode cX1_set 20 = .ok (.iload_n 3, 1) := by decide +kernel
theorem dX1_set_21 : decode cX1_set 21 = .ok (.iastore, 1) := by decide +kernel
theorem dX1_set_22 : decode cX1_set 22 = .ok (.iconst 0, 1) := by decide +kernel
theorem dX1_set_23 : decode cX1_set 23 = .ok (.istore 4, 2) := by decide +kernel
theorem dX1_set_25 : decode cX1_set 25 = .ok (.iload 4, 2) := by decide +kernel
theorem dX1_set_27 : decode cX1_set 27 = .ok (.bipush 96, 2) := by decide +kernel
theorem dX1_set_29 : decode cX1_set 29 = .ok (.if_icmp .ge 22, 3) := by decide +kernel
theorem dX1_set_32 : decode cX1_set 32 = .ok (.aload_n 0, 1) := by decide +kernel
theorem dX1_set_33 : decode cX1_set 33 = .ok (.getfield 18, 3) := by decide +kernel
theorem dX1_set_36 : decode cX1_set 36 = .ok (.iload_n 1, 1) := by decide +kernel
theorem dX1_set_37 : decode cX1_set 37 = .ok (.bipush 96, 2) := by decide +kernel
theorem dX1_set_39 : decode cX1_set 39 = .ok (.imul, 1) := by decide +kernel
theorem dX1_set_40 : decode cX1_set 40 = .ok (.iload 4, 2) := by decide +kernel
theorem dX1_set_42 : decode cX1_set 42 = .ok (.iadd, 1) := by decide +kernel
theorem dX1_set_43 : decode cX1_set 43 = .ok (.iconst (-1), 1) := by decide +kernel
theorem dX1_set_44 : decode cX1_set 44 = .ok (.iastore, 1) := by decide +kernel
theorem dX1_set_45 : decode cX1_set 45 = .ok (.iinc 4 1, 3) := by decide +kernel
theorem dX1_set_48 : decode cX1_set 48 = .ok (.goto (-23), 3) := by decide +kernel
theorem dX1_set_51 : decode cX1_set 51 = .ok (.return_, 1) := by decide +kernel
theorem dX1_isSet_0 : decode cX1_isSet 0 = .ok (.iload_n 1, 1) := by decide +kernel
theorem dX1_isSet_1 : decode cX1_isSet 1 = .ok (.ifCond .lt 23, 3) := by decide +kernel
theorem dX1_isSet_4 : decode cX1_isSet 4 = .ok (.iload_n 1, 1) := by decide +kernel
theorem dX1_isSet_5 : decode cX1_isSet 5 = .ok (.iconst 4, 1) := by decide +kernel
theorem dX1_isSet_6 : decode cX1_isSet 6 = .ok (.if_icmp .ge 18, 3) := by decide +kernel
theorem dX1_isSet_9 : decode cX1_isSet 9 = .ok (.aload_n 0, 1) := by decide +kernel
theorem dX1_isSet_10 : decode cX1_isSet 10 = .ok (.getfield 9, 3) := by decide +kernel
theorem dX1_isSet_13 : decode cX1_isSet 13 = .ok (.iload_n 1, 1) := by decide +kernel
theorem dX1_isSet_14 : decode cX1_isSet 14 = .ok (.iaload, 1) := by decide +kernel
theorem dX1_isSet_15 : decode cX1_isSet 15 = .ok (.bipush (-4), 2) := by decide +kernel
theorem dX1_isSet_17 : decode cX1_isSet 17 = .ok (.if_icmp .eq 7, 3) := by decide +kernel
theorem dX1_isSet_20 : decode cX1_isSet 20 = .ok (.iconst 1, 1) := by decide +kernel
theorem dX1_isSet_21 : decode cX1_isSet 21 = .ok (.goto 4, 3) := by decide +kernel
theorem dX1_isSet_24 : decode cX1_isSet 24 = .ok (.iconst 0, 1) := by decide +kernel
theorem dX1_isSet_25 : decode cX1_isSet 25 = .ok (.ireturn, 1) := by decide +kernel
theorem dX1_reading_0 : decode cX1_reading 0 = .ok (.aload_n 0, 1) := by decide +kernel
theorem dX1_reading_1 : decode cX1_reading 1 = .ok (.iload_n 2, 1) := by decide +kernel
theorem dX1_reading_2 : decode cX1_reading 2 = .ok (.invokevirtual 35, 3) := by decide +kernel
theorem dX1_reading_5 : decode cX1_reading 5 = .ok (.ifCond .ne 5, 3) := by decide +kernel
theorem dX1_reading_8 : decode cX1_reading 8 = .ok (.lconst 0, 1) := by decide +kernel
theorem dX1_reading_9 : decode cX1_reading 9 = .ok (.lreturn, 1) := by decide +kernel
theorem dX1_reading_10 : decode cX1_reading 10 = .ok (.aload_n 0, 1) := by decide +kernel
theorem dX1_reading_11 : decode cX1_reading 11 = .ok (.getfield 15, 3) := by decide +kernel
theorem dX1_reading_14 : decode cX1_reading 14 = .ok (.iload_n 2, 1) := by decide +kernel
theorem dX1_reading_15 : decode cX1_reading 15 = .ok (.iaload, 1) := by decide +kernel
theorem dX1_reading_16 : decode cX1_reading 16 = .ok (.istore_n 3, 1) := by decide +kernel
theorem dX1_reading_17 : decode cX1_reading 17 = .ok (.aload_n 0, 1) := by decide +kernel
theorem dX1_reading_18 : decode cX1_reading 18 = .ok (.getfield 9, 3) := by decide +kernel
theorem dX1_reading_21 : decode cX1_reading 21 = .ok (.iload_n 2, 1) := by decide +kernel
theorem dX1_reading_22 : decode cX1_reading 22 = .ok (.iaload, 1) := by decide +kernel
theorem dX1_reading_23 : decode cX1_reading 23 = .ok (.ifCond .ne 21, 3) := by decide +kernel
theorem dX1_reading_26 : decode cX1_reading 26 = .ok (.iload_n 3, 1) := by decide +kernel
theorem dX1_reading_27 : decode cX1_reading 27 = .ok (.invokestatic 38, 3) := by decide +kernel
theorem dX1_reading_30 : decode cX1_reading 30 = .ok (.ifCond .eq 7, 3) := by decide +kernel
theorem dX1_reading_33 : decode cX1_reading 33 = .ok (.lconst 0, 1) := by decide +kernel
theorem dX1_reading_34 : decode cX1_reading 34 = .ok (.goto 9, 3) := by decide +kernel
theorem dX1_reading_37 : decode cX1_reading 37 = .ok (.aload_n 1, 1) := by decide +kernel
theorem dX1_reading_38 : decode cX1_reading 38 = .ok (.getfield 41, 3) := by decide +kernel
theorem dX1_reading_41 : decode cX1_reading 41 = .ok (.iload_n 3, 1) := by decide +kernel
theorem dX1_reading_42 : decode cX1_reading 42 = .ok (.laload, 1) := by decide +kernel
theorem dX1_reading_43 : decode cX1_reading 43 = .ok (.lreturn, 1) := by decide +kernel
theorem dX1_reading_44 : decode cX1_reading 44 = .ok (.iload_n 3, 1) := by decide +kernel
theorem dX1_reading_45 : decode cX1_reading 45 = .ok (.invokestatic 47, 3) := by decide +kernel
theorem dX1_reading_48 : decode cX1_reading 48 = .ok (.ifCond .eq 7, 3) := by decide +kernel
theorem dX1_reading_51 : decode cX1_reading 51 = .ok (.lconst 0, 1) := by decide +kernel
theorem dX1_reading_52 : decode cX1_reading 52 = .ok (.goto 9, 3) := by decide +kernel
theorem dX1_reading_55 : decode cX1_reading 55 = .ok (.aload_n 1, 1) := by decide +kernel
theorem dX1_reading_56 : decode cX1_reading 56 = .ok (.getfield 50, 3) := by decide +kernel
theorem dX1_reading_59 : decode cX1_reading 59 = .ok (.iload_n 3, 1) := by decide +kernel
theorem dX1_reading_60 : decode cX1_reading 60 = .ok (.laload, 1) := by decide +kernel
theorem dX1_reading_61 : decode cX1_reading 61 = .ok (.lreturn, 1) := by decide +kernel
theorem dX1_putSeen_0 : decode cX1_putSeen 0 = .ok (.iload_n 1, 1) := by decide +kernel
theorem dX1_putSeen_1 : decode cX1_putSeen 1 = .ok (.invokestatic 31, 3) := by decide +kernel
theorem dX1_putSeen_4 : decode cX1_putSeen 4 = .ok (.ifCond .ne 13, 3) := by decide +kernel
theorem dX1_putSeen_7 : decode cX1_putSeen 7 = .ok (.iload_n 2, 1) := by decide +kernel
theorem dX1_putSeen_8 : decode cX1_putSeen 8 = .ok (.iconst 0, 1) := by decide +kernel
theorem dX1_putSeen_9 : decode cX1_putSeen 9 = .ok (.bipush 95, 2) := by decide +kernel
theorem dX1_putSeen_11 : decode cX1_putSeen 11 = .ok (.invokestatic 53, 3) := by decide +kernel
theorem dX1_putSeen_14 : decode cX1_putSeen 14 = .ok (.ifCond .eq 5, 3) := by decide +kernel
theorem dX1_putSeen_17 : decode cX1_putSeen 17 = .ok (.iconst (-1), 1) := by decide +kernel
theorem dX1_putSeen_18 : decode cX1_putSeen 18 = .ok (.ireturn, 1) := by decide +kernel
theorem dX1_putSeen_19 : decode cX1_putSeen 19 = .ok (.aload_n 0, 1) := by decide +kernel
theorem dX1_putSeen_20 : decode cX1_putSeen 20 = .ok (.getfield 18, 3) := by decide +kernel
theorem dX1_putSeen_23 : decode cX1_putSeen 23 = .ok (.iload_n 1, 1) := by decide +kernel
theorem dX1_putSeen_24 : decode cX1_putSeen 24 = .ok (.bipush 96, 2) := by decide +kernel
theorem dX1_putSeen_26 : decode cX1_putSeen 26 = .ok (.imul, 1) := by decide +kernel
theorem dX1_putSeen_27 : decode cX1_putSeen 27 = .ok (.iload_n 2, 1) := by decide +kernel
theorem dX1_putSeen_28 : decode cX1_putSeen 28 = .ok (.iadd, 1) := by decide +kernel
theorem dX1_putSeen_29 : decode cX1_putSeen 29 = .ok (.iaload, 1) := by decide +kernel
theorem dX1_putSeen_30 : decode cX1_putSeen 30 = .ok (.istore 4, 2) := by decide +kernel
theorem dX1_putSeen_32 : decode cX1_putSeen 32 = .ok (.aload_n 0, 1) := by decide +kernel
theorem dX1_putSeen_33 : decode cX1_putSeen 33 = .ok (.getfield 18, 3) := by decide +kernel
theorem dX1_putSeen_36 : decode cX1_putSeen 36 = .ok (.iload_n 1, 1) := by decide +kernel
theorem dX1_putSeen_37 : decode cX1_putSeen 37 = .ok (.bipush 96, 2) := by decide +kernel
theorem dX1_putSeen_39 : decode cX1_putSeen 39 = .ok (.imul, 1) := by decide +kernel
theorem dX1_putSeen_40 : decode cX1_putSeen 40 = .ok (.iload_n 2, 1) := by decide +kernel
theorem dX1_putSeen_41 : decode cX1_putSeen 41 = .ok (.iadd, 1) := by decide +kernel
theorem dX1_putSeen_42 : decode cX1_putSeen 42 = .ok (.iload_n 3, 1) := by decide +kernel
theorem dX1_putSeen_43 : decode cX1_putSeen 43 = .ok (.iastore, 1) := by decide +kernel
theorem dX1_putSeen_44 : decode cX1_putSeen 44 = .ok (.iload 4, 2) := by decide +kernel
theorem dX1_putSeen_46 : decode cX1_putSeen 46 = .ok (.ireturn, 1) := by decide +kernel
theorem dX1_agree_0 : decode cX1_agree 0 = .ok (.iconst 0, 1) := by decide +kernel
theorem dX1_agree_1 : decode cX1_agree 1 = .ok (.istore_n 3, 1) := by decide +kernel
theorem dX1_agree_2 : decode cX1_agree 2 = .ok (.iload_n 3, 1) := by decide +kernel
theorem dX1_agree_3 : decode cX1_agree 3 = .ok (.iconst 4, 1) := by decide +kernel
theorem dX1_agree_4 : decode cX1_agree 4 = .ok (.if_icmp .ge 58, 3) := by decide +kernel
theorem dX1_agree_7 : decode cX1_agree 7 = .ok (.iload_n 2, 1) := by decide +kernel
theorem dX1_agree_8 : decode cX1_agree 8 = .ok (.bipush 96, 2) := by decide +kernel
theorem dX1_agree_10 : decode cX1_agree 10 = .ok (.if_icmp .ge 52, 3) := by decide +kernel
theorem dX1_agree_13 : decode cX1_agree 13 = .ok (.aload_n 0, 1) := by decide +kernel
theorem dX1_agree_14 : decode cX1_agree 14 = .ok (.getfield 18, 3) := by decide +kernel
theorem dX1_agree_17 : decode cX1_agree 17 = .ok (.iload_n 3, 1) := by decide +kernel
theorem dX1_agree_18 : decode cX1_agree 18 = .ok (.bipush 96, 2) := by decide +kernel
theorem dX1_agree_20 : decode cX1_agree 20 = .ok (.imul, 1) := by decide +kernel
theorem dX1_agree_21 : decode cX1_agree 21 = .ok (.iload_n 2, 1) := by decide +kernel
theorem dX1_agree_22 : decode cX1_agree 22 = .ok (.iadd, 1) := by decide +kernel
theorem dX1_agree_23 : decode cX1_agree 23 = .ok (.iaload, 1) := by decide +kernel
theorem dX1_agree_24 : decode cX1_agree 24 = .ok (.istore 4, 2) := by decide +kernel
theorem dX1_agree_26 : decode cX1_agree 26 = .ok (.iload 4, 2) := by decide +kernel
theorem dX1_agree_28 : decode cX1_agree 28 = .ok (.iconst (-1), 1) := by decide +kernel
theorem dX1_agree_29 : decode cX1_agree 29 = .ok (.if_icmp .eq 27, 3) := by decide +kernel
theorem dX1_agree_32 : decode cX1_agree 32 = .ok (.aload_n 0, 1) := by decide +kernel
theorem dX1_agree_33 : decode cX1_agree 33 = .ok (.aload_n 1, 1) := by decide +kernel
theorem dX1_agree_34 : decode cX1_agree 34 = .ok (.iload_n 3, 1) := by decide +kernel
theorem dX1_agree_35 : decode cX1_agree 35 = .ok (.invokevirtual 57, 3) := by decide +kernel
theorem dX1_agree_38 : decode cX1_agree 38 = .ok (.iload 4, 2) := by decide +kernel
theorem dX1_agree_40 : decode cX1_agree 40 = .ok (.i2l, 1) := by decide +kernel
theorem dX1_agree_41 : decode cX1_agree 41 = .ok (.lsub, 1) := by decide +kernel
theorem dX1_agree_42 : decode cX1_agree 42 = .ok (.invokestatic 61, 3) := by decide +kernel
theorem dX1_agree_45 : decode cX1_agree 45 = .ok (.aload_n 0, 1) := by decide +kernel
theorem dX1_agree_46 : decode cX1_agree 46 = .ok (.getfield 21, 3) := by decide +kernel
theorem dX1_agree_49 : decode cX1_agree 49 = .ok (.i2l, 1) := by decide +kernel
theorem dX1_agree_50 : decode cX1_agree 50 = .ok (.lcmp, 1) := by decide +kernel
theorem dX1_agree_51 : decode cX1_agree 51 = .ok (.ifCond .le 5, 3) := by decide +kernel
theorem dX1_agree_54 : decode cX1_agree 54 = .ok (.iconst 0, 1) := by decide +kernel
theorem dX1_agree_55 : decode cX1_agree 55 = .ok (.ireturn, 1) := by decide +kernel
theorem dX1_agree_56 : decode cX1_agree 56 = .ok (.iinc 3 1, 3) := by decide +kernel
theorem dX1_agree_59 : decode cX1_agree 59 = .ok (.goto (-57), 3) := by decide +kernel
theorem dX1_agree_62 : decode cX1_agree 62 = .ok (.iconst 1, 1) := by decide +kernel
theorem dX1_agree_63 : decode cX1_agree 63 = .ok (.ireturn, 1) := by decide +kernel
theorem dX1_lastSeen_0 : decode cX1_lastSeen 0 = .ok (.iconst (-1), 1) := by decide +kernel
theorem dX1_lastSeen_1 : decode cX1_lastSeen 1 = .ok (.istore_n 1, 1) := by decide +kernel
theorem dX1_lastSeen_2 : decode cX1_lastSeen 2 = .ok (.iconst 0, 1) := by decide +kernel
theorem dX1_lastSeen_3 : decode cX1_lastSeen 3 = .ok (.istore_n 2, 1) := by decide +kernel
theorem dX1_lastSeen_4 : decode cX1_lastSeen 4 = .ok (.iload_n 2, 1) := by decide +kernel
theorem dX1_lastSeen_5 : decode cX1_lastSeen 5 = .ok (.aload_n 0, 1) := by decide +kernel
theorem dX1_lastSeen_6 : decode cX1_lastSeen 6 = .ok (.getfield 18, 3) := by decide +kernel
theorem dX1_lastSeen_9 : decode cX1_lastSeen 9 = .ok (.arraylength, 1) := by decide +kernel
theorem dX1_lastSeen_10 : decode cX1_lastSeen 10 = .ok (.if_icmp .ge 28, 3) := by decide +kernel
theorem dX1_lastSeen_13 : decode cX1_lastSeen 13 = .ok (.aload_n 0, 1) := by decide +kernel
theorem dX1_lastSeen_14 : decode cX1_lastSeen 14 = .ok (.getfield 18, 3) := by decide +kernel
theorem dX1_lastSeen_17 : decode cX1_lastSeen 17 = .ok (.iload_n 2, 1) := by decide +kernel
theorem dX1_lastSeen_18 : decode cX1_lastSeen 18 = .ok (.iaload, 1) := by decide +kernel
theorem dX1_lastSeen_19 : decode cX1_lastSeen 19 = .ok (.iconst (-1), 1) := by decide +kernel
theorem dX1_lastSeen_20 : decode cX1_lastSeen 20 = .ok (.if_icmp .eq 12, 3) := by decide +kernel
theorem dX1_lastSeen_23 : decode cX1_lastSeen 23 = .ok (.iload_n 1, 1) := by decide +kernel
theorem dX1_lastSeen_24 : decode cX1_lastSeen 24 = .ok (.iload_n 2, 1) := by decide +kernel
theorem dX1_lastSeen_25 : decode cX1_lastSeen 25 = .ok (.bipush 96, 2) := by decide +kernel
theorem dX1_lastSeen_27 : decode cX1_lastSeen 27 = .ok (.irem, 1) := by decide +kernel
theorem dX1_lastSeen_28 : decode cX1_lastSeen 28 = .ok (.invokestatic 67, 3) := by decide +kernel
theorem dX1_lastSeen_31 : decode cX1_lastSeen 31 = .ok (.istore_n 1, 1) := by decide +kernel
theorem dX1_lastSeen_32 : decode cX1_lastSeen 32 = .ok (.iinc 2 1, 3) := by decide +kernel
theorem dX1_lastSeen_35 : decode cX1_lastSeen 35 = .ok (.goto (-31), 3) := by decide +kernel
theorem dX1_lastSeen_38 : decode cX1_lastSeen 38 = .ok (.iload_n 1, 1) := by decide +kernel
theorem dX1_lastSeen_39 : decode cX1_lastSeen 39 = .ok (.ireturn, 1) := by decide +kernel
theorem dX1_setMany_0 : decode cX1_setMany 0 = .ok (.iconst 0, 1) := by decide +kernel
theorem dX1_setMany_1 : decode cX1_setMany 1 = .ok (.istore_n 1, 1) := by decide +kernel
theorem dX1_setMany_2 : decode cX1_setMany 2 = .ok (.iconst 0, 1) := by decide +kernel
theorem dX1_setMany_3 : decode cX1_setMany 3 = .ok (.istore_n 2, 1) := by decide +kernel
theorem dX1_setMany_4 : decode cX1_setMany 4 = .ok (.iload_n 2, 1) := by decide +kernel
theorem dX1_setMany_5 : decode cX1_setMany 5 = .ok (.iconst 4, 1) := by decide +kernel
theorem dX1_setMany_6 : decode cX1_setMany 6 = .ok (.if_icmp .ge 25, 3) := by decide +kernel
theorem dX1_setMany_9 : decode cX1_setMany 9 = .ok (.iload_n 1, 1) := by decide +kernel
theorem dX1_setMany_10 : decode cX1_setMany 10 = .ok (.aload_n 0, 1) := by decide +kernel
theorem dX1_setMany_11 : decode cX1_setMany 11 = .ok (.iload_n 2, 1) := by decide +kernel
theorem dX1_setMany_12 : decode cX1_setMany 12 = .ok (.invokevirtual 35, 3) := by decide +kernel
theorem dX1_setMany_15 : decode cX1_setMany 15 = .ok (.ifCond .eq 7, 3) := by decide +kernel
theorem dX1_setMany_18 : decode cX1_setMany 18 = .ok (.iconst 1, 1) := by decide +kernel
theorem dX1_setMany_19 : decode cX1_setMany 19 = .ok (.goto 4, 3) := by decide +kernel
theorem dX1_setMany_22 : decode cX1_setMany 22 = .ok (.iconst 0, 1) := by decide +kernel
theorem dX1_setMany_23 : decode cX1_setMany 23 = .ok (.iadd, 1) := by decide +kernel
theorem dX1_setMany_24 : decode cX1_setMany 24 = .ok (.istore_n 1, 1) := by decide +kernel
theorem dX1_setMany_25 : decode cX1_setMany 25 = .ok (.iinc 2 1, 3) := by decide +kernel
theorem dX1_setMany_28 : decode cX1_setMany 28 = .ok (.goto (-24), 3) := by decide +kernel
theorem dX1_setMany_31 : decode cX1_setMany 31 = .ok (.iload_n 1, 1) := by decide +kernel
theorem dX1_setMany_32 : decode cX1_setMany 32 = .ok (.ireturn, 1) := by decide +kernel
theorem dX1_seenMany_0 : decode cX1_seenMany 0 = .ok (.iconst 0, 1) := by decide +kernel
theorem dX1_seenMany_1 : decode cX1_seenMany 1 = .ok (.istore_n 1, 1) := by decide +kernel
theorem dX1_seenMany_2 : decode cX1_seenMany 2 = .ok (.iconst 0, 1) := by decide +kernel
theorem dX1_seenMany_3 : decode cX1_seenMany 3 = .ok (.istore_n 2, 1) := by decide +kernel
theorem dX1_seenMany_4 : decode cX1_seenMany 4 = .ok (.iload_n 2, 1) := by decide +kernel
theorem dX1_seenMany_5 : decode cX1_seenMany 5 = .ok (.aload_n 0, 1) := by decide +kernel
theorem dX1_seenMany_6 : decode cX1_seenMany 6 = .ok (.getfield 18, 3) := by decide +kernel
theorem dX1_seenMany_9 : decode cX1_seenMany 9 = .ok (.arraylength, 1) := by decide +kernel
theorem dX1_seenMany_10 : decode cX1_seenMany 10 = .ok (.if_icmp .ge 27, 3) := by decide +kernel
theorem dX1_seenMany_13 : decode cX1_seenMany 13 = .ok (.iload_n 1, 1) := by decide +kernel
theorem dX1_seenMany_14 : decode cX1_seenMany 14 = .ok (.aload_n 0, 1) := by decide +kernel
theorem dX1_seenMany_15 : decode cX1_seenMany 15 = .ok (.getfield 18, 3) := by decide +kernel
theorem dX1_seenMany_18 : decode cX1_seenMany 18 = .ok (.iload_n 2, 1) := by decide +kernel
theorem dX1_seenMany_19 : decode cX1_seenMany 19 = .ok (.iaload, 1) := by decide +kernel
theorem dX1_seenMany_20 : decode cX1_seenMany 20 = .ok (.iconst (-1), 1) := by decide +kernel
theorem dX1_seenMany_21 : decode cX1_seenMany 21 = .ok (.if_icmp .eq 7, 3) := by decide +kernel
theorem dX1_seenMany_24 : decode cX1_seenMany 24 = .ok (.iconst 1, 1) := by decide +kernel
theorem dX1_seenMany_25 : decode cX1_seenMany 25 = .ok (.goto 4, 3) := by decide +kernel
theorem dX1_seenMany_28 : decode cX1_seenMany 28 = .ok (.iconst 0, 1) := by decide +kernel
theorem dX1_seenMany_29 : decode cX1_seenMany 29 = .ok (.iadd, 1) := by decide +kernel
theorem dX1_seenMany_30 : decode cX1_seenMany 30 = .ok (.istore_n 1, 1) := by decide +kernel
theorem dX1_seenMany_31 : decode cX1_seenMany 31 = .ok (.iinc 2 1, 3) := by decide +kernel
theorem dX1_seenMany_34 : decode cX1_seenMany 34 = .ok (.goto (-30), 3) := by decide +kernel
theorem dX1_seenMany_37 : decode cX1_seenMany 37 = .ok (.iload_n 1, 1) := by decide +kernel
theorem dX1_seenMany_38 : decode cX1_seenMany 38 = .ok (.ireturn, 1) := by decide +kernel
theorem dX3_unsetAll_0 : decode cX3_unsetAll 0 = .ok (.aload_n 0, 1) := by decide +kernel
theorem dX3_unsetAll_1 : decode cX3_unsetAll 1 = .ok (.getfield 24, 3) := by decide +kernel
theorem dX3_unsetAll_4 : decode cX3_unsetAll 4 = .ok (.iconst 0, 1) := by decide +kernel
theorem dX3_unsetAll_5 : decode cX3_unsetAll 5 = .ok (.invokestatic 27, 3) := by decide +kernel
theorem dX3_unsetAll_8 : decode cX3_unsetAll 8 = .ok (.return_, 1) := by decide +kernel
theorem dX3_set_0 : decode cX3_set 0 = .ok (.iload_n 1, 1) := by decide +kernel
theorem dX3_set_1 : decode cX3_set 1 = .ok (.invokestatic 33, 3) := by decide +kernel
theorem dX3_set_4 : decode cX3_set 4 = .ok (.ifCond .eq 4, 3) := by decide +kernel
theorem dX3_set_7 : decode cX3_set 7 = .ok (.return_, 1) := by decide +kernel
theorem dX3_set_8 : decode cX3_set 8 = .ok (.aload_n 0, 1) := by decide +kernel
theorem dX3_set_9 : decode cX3_set 9 = .ok (.getfield 9, 3) := by decide +kernel
theorem dX3_set_12 : decode cX3_set 12 = .ok (.iload_n 1, 1) := by decide +kernel
theorem dX3_set_13 : decode cX3_set 13 = .ok (.iload_n 2, 1) := by decide +kernel
theorem dX3_set_14 : decode cX3_set 14 = .ok (.iastore, 1) := by decide +kernel
theorem dX3_set_15 : decode cX3_set 15 = .ok (.aload_n 0, 1) := by decide +kernel
theorem dX3_set_16 : decode cX3_set 16 = .ok (.getfield 15, 3) := by decide +kernel
theorem dX3_set_19 : decode cX3_set 19 = .ok (.iload_n 1, 1) := by decide +kernel
theorem dX3_set_20 : decode cX3_set 20 = .ok (.iload_n 3, 1) := by decide +kernel
theorem dX3_set_21 : decode cX3_set 21 = .ok (.iastore, 1) := by decide +kernel
theorem dX3_set_22 : decode cX3_set 22 = .ok (.aload_n 0, 1) := by decide +kernel
theorem dX3_set_23 : decode cX3_set 23 = .ok (.getfield 18, 3) := by decide +kernel
theorem dX3_set_26 : decode cX3_set 26 = .ok (.iload_n 1, 1) := by decide +kernel
theorem dX3_set_27 : decode cX3_set 27 = .ok (.iload 4, 2) := by decide +kernel
theorem dX3_set_29 : decode cX3_set 29 = .ok (.iastore, 1) := by decide +kernel
theorem dX3_set_30 : decode cX3_set 30 = .ok (.aload_n 0, 1) := by decide +kernel
theorem dX3_set_31 : decode cX3_set 31 = .ok (.getfield 21, 3) := by decide +kernel
theorem dX3_set_34 : decode cX3_set 34 = .ok (.iload_n 1, 1) := by decide +kernel
theorem dX3_set_35 : decode cX3_set 35 = .ok (.iload 5, 2) := by decide +kernel
theorem dX3_set_37 : decode cX3_set 37 = .ok (.iastore, 1) := by decide +kernel
theorem dX3_set_38 : decode cX3_set 38 = .ok (.aload_n 0, 1) := by decide +kernel
theorem dX3_set_39 : decode cX3_set 39 = .ok (.getfield 24, 3) := by decide +kernel
theorem dX3_set_42 : decode cX3_set 42 = .ok (.iload_n 1, 1) := by decide +kernel
theorem dX3_set_43 : decode cX3_set 43 = .ok (.iload 6, 2) := by decide +kernel
theorem dX3_set_45 : decode cX3_set 45 = .ok (.iastore, 1) := by decide +kernel
theorem dX3_set_46 : decode cX3_set 46 = .ok (.return_, 1) := by decide +kernel
theorem dX3_isSet_0 : decode cX3_isSet 0 = .ok (.iload_n 1, 1) := by decide +kernel
theorem dX3_isSet_1 : decode cX3_isSet 1 = .ok (.ifCond .lt 21, 3) := by decide +kernel
theorem dX3_isSet_4 : decode cX3_isSet 4 = .ok (.iload_n 1, 1) := by decide +kernel
theorem dX3_isSet_5 : decode cX3_isSet 5 = .ok (.iconst 2, 1) := by decide +kernel
theorem dX3_isSet_6 : decode cX3_isSet 6 = .ok (.if_icmp .ge 16, 3) := by decide +kernel
theorem dX3_isSet_9 : decode cX3_isSet 9 = .ok (.aload_n 0, 1) := by decide +kernel
theorem dX3_isSet_10 : decode cX3_isSet 10 = .ok (.getfield 24, 3) := by decide +kernel
theorem dX3_isSet_13 : decode cX3_isSet 13 = .ok (.iload_n 1, 1) := by decide +kernel
theorem dX3_isSet_14 : decode cX3_isSet 14 = .ok (.iaload, 1) := by decide +kernel
theorem dX3_isSet_15 : decode cX3_isSet 15 = .ok (.ifCond .le 7, 3) := by decide +kernel
theorem dX3_isSet_18 : decode cX3_isSet 18 = .ok (.iconst 1, 1) := by decide +kernel
theorem dX3_isSet_19 : decode cX3_isSet 19 = .ok (.goto 4, 3) := by decide +kernel
theorem dX3_isSet_22 : decode cX3_isSet 22 = .ok (.iconst 0, 1) := by decide +kernel
theorem dX3_isSet_23 : decode cX3_isSet 23 = .ok (.ireturn, 1) := by decide +kernel
theorem dX3_setMany_0 : decode cX3_setMany 0 = .ok (.aload_n 0, 1) := by decide +kernel
theorem dX3_setMany_1 : decode cX3_setMany 1 = .ok (.iconst 0, 1) := by decide +kernel
theorem dX3_setMany_2 : decode cX3_setMany 2 = .ok (.invokevirtual 37, 3) := by decide +kernel
theorem dX3_setMany_5 : decode cX3_setMany 5 = .ok (.ifCond .eq 7, 3) := by decide +kernel
theorem dX3_setMany_8 : decode cX3_setMany 8 = .ok (.iconst 1, 1) := by decide +kernel
theorem dX3_setMany_9 : decode cX3_setMany 9 = .ok (.goto 4, 3) := by decide +kernel
theorem dX3_setMany_12 : decode cX3_setMany 12 = .ok (.iconst 0, 1) := by decide +kernel
theorem dX3_setMany_13 : decode cX3_setMany 13 = .ok (.aload_n 0, 1) := by decide +kernel
theorem dX3_setMany_14 : decode cX3_setMany 14 = .ok (.iconst 1, 1) := by decide +kernel
theorem dX3_setMany_15 : decode cX3_setMany 15 = .ok (.invokevirtual 37, 3) := by decide +kernel
theorem dX3_setMany_18 : decode cX3_setMany 18 = .ok (.ifCond .eq 7, 3) := by decide +kernel
theorem dX3_setMany_21 : decode cX3_setMany 21 = .ok (.iconst 1, 1) := by decide +kernel
theorem dX3_setMany_22 : decode cX3_setMany 22 = .ok (.goto 4, 3) := by decide +kernel
theorem dX3_setMany_25 : decode cX3_setMany 25 = .ok (.iconst 0, 1) := by decide +kernel
theorem dX3_setMany_26 : decode cX3_setMany 26 = .ok (.iadd, 1) := by decide +kernel
theorem dX3_setMany_27 : decode cX3_setMany 27 = .ok (.ireturn, 1) := by decide +kernel
theorem dX3_points_0 : decode cX3_points 0 = .ok (.aload_n 0, 1) := by decide +kernel
theorem dX3_points_1 : decode cX3_points 1 = .ok (.iconst 0, 1) := by decide +kernel
theorem dX3_points_2 : decode cX3_points 2 = .ok (.invokevirtual 40, 3) := by decide +kernel
theorem dX3_points_5 : decode cX3_points 5 = .ok (.aload_n 0, 1) := by decide +kernel
theorem dX3_points_6 : decode cX3_points 6 = .ok (.iconst 1, 1) := by decide +kernel
theorem dX3_points_7 : decode cX3_points 7 = .ok (.invokevirtual 40, 3) := by decide +kernel
theorem dX3_points_10 : decode cX3_points 10 = .ok (.imul, 1) := by decide +kernel
theorem dX3_points_11 : decode cX3_points 11 = .ok (.ireturn, 1) := by decide +kernel
theorem dX3_pointsOf_0 : decode cX3_pointsOf 0 = .ok (.aload_n 0, 1) := by decide +kernel
theorem dX3_pointsOf_1 : decode cX3_pointsOf 1 = .ok (.iload_n 1, 1) := by decide +kernel
theorem dX3_pointsOf_2 : decode cX3_pointsOf 2 = .ok (.invokevirtual 37, 3) := by decide +kernel
theorem dX3_pointsOf_5 : decode cX3_pointsOf 5 = .ok (.ifCond .eq 12, 3) := by decide +kernel
theorem dX3_pointsOf_8 : decode cX3_pointsOf 8 = .ok (.aload_n 0, 1) := by decide +kernel
theorem dX3_pointsOf_9 : decode cX3_pointsOf 9 = .ok (.getfield 24, 3) := by decide +kernel
theorem dX3_pointsOf_12 : decode cX3_pointsOf 12 = .ok (.iload_n 1, 1) := by decide +kernel
theorem dX3_pointsOf_13 : decode cX3_pointsOf 13 = .ok (.iaload, 1) := by decide +kernel
theorem dX3_pointsOf_14 : decode cX3_pointsOf 14 = .ok (.goto 4, 3) := by decide +kernel
theorem dX3_pointsOf_17 : decode cX3_pointsOf 17 = .ok (.iconst 1, 1) := by decide +kernel
theorem dX3_pointsOf_18 : decode cX3_pointsOf 18 = .ok (.ireturn, 1) := by decide +kernel
theorem dX3_numberAt_0 : decode cX3_numberAt 0 = .ok (.iload_n 1, 1) := by decide +kernel
theorem dX3_numberAt_1 : decode cX3_numberAt 1 = .ok (.invokestatic 33, 3) := by decide +kernel
theorem dX3_numberAt_4 : decode cX3_numberAt 4 = .ok (.ifCond .eq 6, 3) := by decide +kernel
theorem dX3_numberAt_7 : decode cX3_numberAt 7 = .ok (.bipush (-4), 2) := by decide +kernel
theorem dX3_numberAt_9 : decode cX3_numberAt 9 = .ok (.ireturn, 1) := by decide +kernel
theorem dX3_numberAt_10 : decode cX3_numberAt 10 = .ok (.iconst 1, 1) := by decide +kernel
theorem dX3_numberAt_11 : decode cX3_numberAt 11 = .ok (.aload_n 0, 1) := by decide +kernel
theorem dX3_numberAt_12 : decode cX3_numberAt 12 = .ok (.iconst 1, 1) := by decide +kernel
theorem dX3_numberAt_13 : decode cX3_numberAt 13 = .ok (.invokevirtual 40, 3) := by decide +kernel
theorem dX3_numberAt_16 : decode cX3_numberAt 16 = .ok (.invokestatic 44, 3) := by decide +kernel
theorem dX3_numberAt_19 : decode cX3_numberAt 19 = .ok (.istore_n 3, 1) := by decide +kernel
theorem dX3_numberAt_20 : decode cX3_numberAt 20 = .ok (.aload_n 0, 1) := by decide +kernel
theorem dX3_numberAt_21 : decode cX3_numberAt 21 = .ok (.getfield 18, 3) := by decide +kernel
theorem dX3_numberAt_24 : decode cX3_numberAt 24 = .ok (.iload_n 1, 1) := by decide +kernel
theorem dX3_numberAt_25 : decode cX3_numberAt 25 = .ok (.iaload, 1) := by decide +kernel
theorem dX3_numberAt_26 : decode cX3_numberAt 26 = .ok (.aload_n 0, 1) := by decide +kernel
theorem dX3_numberAt_27 : decode cX3_numberAt 27 = .ok (.getfield 21, 3) := by decide +kernel
theorem dX3_numberAt_30 : decode cX3_numberAt 30 = .ok (.iload_n 1, 1) := by decide +kernel
theorem dX3_numberAt_31 : decode cX3_numberAt 31 = .ok (.iaload, 1) := by decide +kernel
theorem dX3_numberAt_32 : decode cX3_numberAt 32 = .ok (.iload_n 1, 1) := by decide +kernel
theorem dX3_numberAt_33 : decode cX3_numberAt 33 = .ok (.ifCond .ne 9, 3) := by decide +kernel
theorem dX3_numberAt_36 : decode cX3_numberAt 36 = .ok (.iload_n 2, 1) := by decide +kernel
theorem dX3_numberAt_37 : decode cX3_numberAt 37 = .ok (.iload_n 3, 1) := by decide +kernel
theorem dX3_numberAt_38 : decode cX3_numberAt 38 = .ok (.idiv, 1) := by decide +kernel
theorem dX3_numberAt_39 : decode cX3_numberAt 39 = .ok (.goto 6, 3) := by decide +kernel
theorem dX3_numberAt_42 : decode cX3_numberAt 42 = .ok (.iload_n 2, 1) := by decide +kernel
theorem dX3_numberAt_43 : decode cX3_numberAt 43 = .ok (.iload_n 3, 1) := by decide +kernel
theorem dX3_numberAt_44 : decode cX3_numberAt 44 = .ok (.irem, 1) := by decide +kernel
theorem dX3_numberAt_45 : decode cX3_numberAt 45 = .ok (.imul, 1) := by decide +kernel
theorem dX3_numberAt_46 : decode cX3_numberAt 46 = .ok (.iadd, 1) := by decide +kernel
theorem dX3_numberAt_47 : decode cX3_numberAt 47 = .ok (.ireturn, 1) := by decide +kernel
theorem dX3_lay_0 : decode cX3_lay 0 = .ok (.iconst 0, 1) := by decide +kernel
theorem dX3_lay_1 : decode cX3_lay 1 = .ok (.istore_n 3, 1) := by decide +kernel
theorem dX3_lay_2 : decode cX3_lay 2 = .ok (.iload_n 3, 1) := by decide +kernel
theorem dX3_lay_3 : decode cX3_lay 3 = .ok (.iconst 2, 1) := by decide +kernel
theorem dX3_lay_4 : decode cX3_lay 4 = .ok (.if_icmp .ge 62, 3) := by decide +kernel
theorem dX3_lay_7 : decode cX3_lay 7 = .ok (.aload_n 0, 1) := by decide +kernel
theorem dX3_lay_8 : decode cX3_lay 8 = .ok (.iload_n 3, 1) := by decide +kernel
theorem dX3_lay_9 : decode cX3_lay 9 = .ok (.invokevirtual 37, 3) := by decide +kernel
theorem dX3_lay_12 : decode cX3_lay 12 = .ok (.ifCond .eq 48, 3) := by decide +kernel
theorem dX3_lay_15 : decode cX3_lay 15 = .ok (.aload_n 2, 1) := by decide +kernel
theorem dX3_lay_16 : decode cX3_lay 16 = .ok (.aload_n 0, 1) := by decide +kernel
theorem dX3_lay_17 : decode cX3_lay 17 = .ok (.getfield 9, 3) := by decide +kernel
theorem dX3_lay_20 : decode cX3_lay 20 = .ok (.iload_n 3, 1) := by decide +kernel
theorem dX3_lay_21 : decode cX3_lay 21 = .ok (.iaload, 1) := by decide +kernel
theorem dX3_lay_22 : decode cX3_lay 22 = .ok (.aload_n 0, 1) := by decide +kernel
theorem dX3_lay_23 : decode cX3_lay 23 = .ok (.getfield 15, 3) := by decide +kernel
theorem dX3_lay_26 : decode cX3_lay 26 = .ok (.iload_n 3, 1) := by decide +kernel
theorem dX3_lay_27 : decode cX3_lay 27 = .ok (.iaload, 1) := by decide +kernel
theorem dX3_lay_28 : decode cX3_lay 28 = .ok (.invokevirtual 50, 3) := by decide +kernel
theorem dX3_lay_31 : decode cX3_lay 31 = .ok (.ifCond .ne 5, 3) := by decide +kernel
theorem dX3_lay_34 : decode cX3_lay 34 = .ok (.iconst 0, 1) := by decide +kernel
theorem dX3_lay_35 : decode cX3_lay 35 = .ok (.ireturn, 1) := by decide +kernel
theorem dX3_lay_36 : decode cX3_lay 36 = .ok (.aload_n 2, 1) := by decide +kernel
theorem dX3_lay_37 : decode cX3_lay 37 = .ok (.aload_n 0, 1) := by decide +kernel
theorem dX3_lay_38 : decode cX3_lay 38 = .ok (.getfield 9, 3) := by decide +kernel
theorem dX3_lay_41 : decode cX3_lay 41 = .ok (.iload_n 3, 1) := by decide +kernel
theorem dX3_lay_42 : decode cX3_lay 42 = .ok (.iaload, 1) := by decide +kernel
theorem dX3_lay_43 : decode cX3_lay 43 = .ok (.iconst 3, 1) := by decide +kernel
theorem dX3_lay_44 : decode cX3_lay 44 = .ok (.aload_n 0, 1) := by decide +kernel
theorem dX3_lay_45 : decode cX3_lay 45 = .ok (.getfield 15, 3) := by decide +kernel
theorem dX3_lay_48 : decode cX3_lay 48 = .ok (.iload_n 3, 1) := by decide +kernel
theorem dX3_lay_49 : decode cX3_lay 49 = .ok (.iaload, 1) := by decide +kernel
theorem dX3_lay_50 : decode cX3_lay 50 = .ok (.iadd, 1) := by decide +kernel
theorem dX3_lay_51 : decode cX3_lay 51 = .ok (.aload_n 0, 1) := by decide +kernel
theorem dX3_lay_52 : decode cX3_lay 52 = .ok (.iload_n 3, 1) := by decide +kernel
theorem dX3_lay_53 : decode cX3_lay 53 = .ok (.iload_n 1, 1) := by decide +kernel
theorem dX3_lay_54 : decode cX3_lay 54 = .ok (.invokevirtual 56, 3) := by decide +kernel
theorem dX3_lay_57 : decode cX3_lay 57 = .ok (.invokevirtual 59, 3) := by decide +kernel
theorem dX3_lay_60 : decode cX3_lay 60 = .ok (.iinc 3 1, 3) := by decide +kernel
theorem dX3_lay_63 : decode cX3_lay 63 = .ok (.goto (-61), 3) := by decide +kernel
theorem dX3_lay_66 : decode cX3_lay 66 = .ok (.iconst 0, 1) := by decide +kernel
theorem dX3_lay_67 : decode cX3_lay 67 = .ok (.istore_n 3, 1) := by decide +kernel
theorem dX3_lay_68 : decode cX3_lay 68 = .ok (.iload_n 3, 1) := by decide +kernel
theorem dX3_lay_69 : decode cX3_lay 69 = .ok (.iconst 2, 1) := by decide +kernel
theorem dX3_lay_70 : decode cX3_lay 70 = .ok (.if_icmp .ge 32, 3) := by decide +kernel
theorem dX3_lay_73 : decode cX3_lay 73 = .ok (.aload_n 0, 1) := by decide +kernel
theorem dX3_lay_74 : decode cX3_lay 74 = .ok (.iload_n 3, 1) := by decide +kernel
theorem dX3_lay_75 : decode cX3_lay 75 = .ok (.invokevirtual 37, 3) := by decide +kernel
theorem dX3_lay_78 : decode cX3_lay 78 = .ok (.ifCond .eq 18, 3) := by decide +kernel
theorem dX3_lay_81 : decode cX3_lay 81 = .ok (.aload_n 2, 1) := by decide +kernel
theorem dX3_lay_82 : decode cX3_lay 82 = .ok (.aload_n 0, 1) := by decide +kernel
theorem dX3_lay_83 : decode cX3_lay 83 = .ok (.getfield 9, 3) := by decide +kernel
theorem dX3_lay_86 : decode cX3_lay 86 = .ok (.iload_n 3, 1) := by decide +kernel
theorem dX3_lay_87 : decode cX3_lay 87 = .ok (.iaload, 1) := by decide +kernel
theorem dX3_lay_88 : decode cX3_lay 88 = .ok (.invokevirtual 63, 3) := by decide +kernel
theorem dX3_lay_91 : decode cX3_lay 91 = .ok (.ifCond .ne 5, 3) := by decide +kernel
theorem dX3_lay_94 : decode cX3_lay 94 = .ok (.iconst 0, 1) := by decide +kernel
theorem dX3_lay_95 : decode cX3_lay 95 = .ok (.ireturn, 1) := by decide +kernel
theorem dX3_lay_96 : decode cX3_lay 96 = .ok (.iinc 3 1, 3) := by decide +kernel
theorem dX3_lay_99 : decode cX3_lay 99 = .ok (.goto (-31), 3) := by decide +kernel
theorem dX3_lay_102 : decode cX3_lay 102 = .ok (.iconst 1, 1) := by decide +kernel
theorem dX3_lay_103 : decode cX3_lay 103 = .ok (.ireturn, 1) := by decide +kernel
def uX0_goHour : List Cond := .code yX0_goHour cX0_goHour 7 none :: ([.methodLink RX0 72 yX0_bringDue, .instanceMethod yX0_bringDue, .selects RX0 yX0_bringDue yX0_bringDue, .initialized RX0, .fieldLink RX0 35 "RiverModel$Course" "hours" "I", .fieldLink RX0 75 "RiverModel$Model" "many" "I", .methodLink RX0 78 yX0_amountOf, .instanceMethod yX0_amountOf, .selects RX0 yX0_amountOf yX0_amountOf, .fieldLink RX0 15 "RiverModel$Course" "moved" "[J", .methodLink RX0 82 yX0_move, .instanceMethod yX0_move, .selects RX0 yX0_move yX0_move, .code yX0_bringDue cX0_bringDue 3 none, .fieldLink RX0 9 "RiverModel$Course" "held" "[J", .fieldLink RX0 22 "RiverModel$Course" "due" "[J", .code yX0_amountOf cX0_amountOf 11 (some .long), .methodLink RX0 86 yX4_cell, .instanceMethod yX4_cell, .selects RX4 yX4_cell yX4_cell, .initialized RX4, .initialized RX9, .static yX9_isNoStore, .methodLink RX0 110 yX4_gateOf, .instanceMethod yX4_gateOf, .selects RX4 yX4_gateOf yX4_gateOf, .methodLink RX0 113 yX0_openingOf, .instanceMethod yX0_openingOf, .selects RX0 yX0_openingOf yX0_openingOf, .methodLink RX0 107 Lib.MathLoose.min_long.x, .static Lib.MathLoose.min_long.x, .initialized "java/lang/Math", .code Lib.MathLoose.min_long.x Lib.MathLoose.min_long.code 4 (some .long), .methodLink RX0 94 yX0_leakOf, .static yX0_leakOf, .constantLong RX0 117 (100), .methodLink RX0 98 yX4_capacityOf, .instanceMethod yX4_capacityOf, .selects RX4 yX4_capacityOf yX4_capacityOf, .methodLink RX0 101 Lib.MathLoose.max_long.x, .static Lib.MathLoose.max_long.x, .code Lib.MathLoose.max_long.x Lib.MathLoose.max_long.code 4 (some .long), .constantLong RX0 119 (10), .code yX4_cell cX4_cell 3 (some .int), .fieldLink RX4 9 "RiverModel$Model" "cells" "[I", .code yX9_isNoStore cX9_isNoStore 1 (some .boolean), .code yX4_gateOf cX4_gateOf 3 (some .int), .fieldLink RX4 28 "RiverModel$Model" "gates" "I", .fieldLink RX4 18 "RiverModel$Model" "gateItems" "[I", .code yX0_openingOf cX0_openingOf 2 (some .long), .static yX9_isNoGate, .fieldLink RX0 18 "RiverModel$Course" "openings" "[I", .code yX9_isNoGate cX9_isNoGate 1 (some .boolean), .code yX0_leakOf cX0_leakOf 8 (some .long), .code yX4_capacityOf cX4_capacityOf 2 (some .int), .methodLink RX4 66 yX4_hasStore, .instanceMethod yX4_hasStore, .selects RX4 yX4_hasStore yX4_hasStore, .fieldLink RX4 15 "RiverModel$Model" "storeItems" "[I", .methodLink RX4 73 yX4_cell, .code yX4_hasStore cX4_hasStore 2 (some .boolean), .code yX0_move cX0_move 8 none, .fieldLink RX0 25 "RiverModel$Course" "rained" "J", .methodLink RX0 124 yX0_send, .instanceMethod yX0_send, .selects RX0 yX0_send yX0_send, .fieldLink RX0 32 "RiverModel$Course" "sea" "J", .fieldLink RX0 29 "RiverModel$Course" "air" "J", .code yX0_send cX0_send 5 none, .static yX9_isOutside, .code yX9_isOutside cX9_isOutside 3 (some .boolean)] ++ wsX00 ++ wsX40)
set_option maxRecDepth 20000 in
theorem gu_X0_goHour_X0_bringDue_72 : GoodIn uX0_goHour (wsV RX0 72 RX0 yX0_bringDue uX0_bringDue) := goodIn_r _ [1, 2, 3, 4, 14, 5, 15, 16, 72, 73, 74, 75, 76, 77, 78, 79] rfl (by decide +kernel)
set_option maxRecDepth 20000 in
theorem gu_X0_goHour_X0_amountOf_78 : GoodIn uX0_goHour (wsV RX0 78 RX0 yX0_amountOf uX0_amountOf) := goodIn_r _ [7, 8, 9, 4, 17, 18, 19, 20, 21, 22, 23, 15, 24, 25, 26, 27, 28, 29, 4, 30, 31, 32, 33, 34, 35, 36, 37, 38, 39, 40, 41, 42, 43, 44, 45, 46, 47, 48, 49, 50, 51, 52, 53, 54, 55, 56, 57, 58, 59, 60, 61, 72, 73, 74, 75, 76, 77, 78, 79, 80, 81, 82, 83, 84, 85] rfl (by decide +kernel)
set_option maxRecDepth 20000 in
theorem gu_X0_goHour_X0_move_82 : GoodIn uX0_goHour (wsV RX0 82 RX0 yX0_move uX0_move) := goodIn_r _ [11, 12, 13, 4, 62, 18, 19, 20, 21, 22, 23, 15, 63, 64, 65, 66, 4, 67, 68, 44, 45, 46, 69, 70, 16, 5, 71, 72, 73, 74, 75, 76, 77, 78, 79, 80, 81, 82, 83, 84, 85] rfl (by decide +kernel)
set_option maxHeartbeats 4000000 in
set_option maxRecDepth 100000 in
theorem s_X0_goHour (l : Launch) (D : va_G) (t : Nat → Nat) (cI cL cC : ClassId) (gC : Int32) (gE : Int32) (G : Nat) (gW : Nat → Int32) (gA : Nat → Int32) (a0 : Nat) (a1 : Nat) (a2 : Int32) (a3 : Int32) (hGb : G ≤ 200000000) (k_a0 : t a0 = 5) (k_a1 : t a1 = 3) : tM l yX0_goHour uX0_goHour 3 73 D (gF cI cL cC gC gE G gW gA) (gF cI cL cC gC gE (G + 1) gW gA) t cI cL cC [.ref a0, .ref a1, .int a2, .int a3] wrC (pV (True)) := by
  refine tM.ofW (cc := cX0_goHour) (maxL := 7) (ret := none) (by decide) rfl (Nat.le_of_ble_eq_true rfl) ?_
  intro p e s m below meth c hx hb hr hml hown hts hlk H locs hG hK hE hS ls hl
  have hl : lv_has ls 7 [(0, .ref a0), (1, .ref a1), (2, .int a2), (3, .int a3)] := hl
  have in0 : ∀ w ∈ wsX00, w ∈ uX0_goHour := fun w h => List.mem_cons_of_mem _ (List.mem_append_left _ (List.mem_append_right _ h))
  have in4 : ∀ w ∈ wsX40, w ∈ uX0_goHour := fun w h => List.mem_cons_of_mem _ (List.mem_append_right _ h)
  refine lv_aload_n hx hb dX0_goHour_0 rfl (lv_at hl 0 rfl) ?_
  obtain ⟨r_1, r_3, r_5, r_7, v_9, v_10, v_11, v_12, at_14, h_2, h_4, h_6, h_8, h_13⟩ := gF_o5 hG k_a0
  refine ty_callv ((W.runV (As := []) (rest := []) ⟨hx, hb, hml, hown, hts⟩ (s_X0_bringDue l D t cI cL cC gC gE G gW gA a0 k_a0) (cwV 0 hts gu_X0_goHour_X0_bringDue_72 rfl rfl rfl (by decide +kernel) ⟨Nat.le_of_ble_eq_true rfl, Nat.le_of_ble_eq_true rfl⟩) (tP_V hG hE at_14 rfl) rfl rfl hl.1 rfl (lv_room (Nat.le_of_ble_eq_true rfl)) dX0_goHour_1 ⟨Nat.le_of_ble_eq_true rfl, Nat.le_of_ble_eq_true rfl⟩)) hS (fun _ h => h) (fun H locs hp_16 hG hS o_17 => ?_)
  refine lv_iconst (v := 0) hx hb dX0_goHour_4 (by decide) ?_
  refine lv_istore (lv' := [(4, .int 0), (0, .ref a0), (1, .ref a1), (2, .int a2), (3, .int a3)]) hx hb dX0_goHour_5 hl (by decide) rfl (fun ls hl => ?_)
  refine lv_pc (pc2 := 7) rfl ?_
  refine lp_gen (fun WW hWW => ?_)
  have kx : ∀ (yi : Int32) (H1 : Heap) (locs1 : List Loc) (ls1 : Array Slot), 0 ≤ yi.toInt → yi.toInt ≤ 40 → tG D (gF cI cL cC gC gE G gW gA) t H1 → tF t wrC s.heap H1 locs1 → lv_has ls1 7 [(4, .int yi), (0, .ref a0), (1, .ref a1), (2, .int a2), (3, .int a3)] → WW H1 locs1 (F0 m 58 ls1 []) := by
    intro yi H locs ls v0 v1 hG hS hl
    refine (hWW _ _ _).mpr ?_
    refine lv_aload_n hx hb dX0_goHour_58 rfl (lv_at hl 1 rfl) ?_
    refine lv_dup hx hb dX0_goHour_59 rfl ?_
    obtain ⟨r_18, r_20, r_22, r_24, v_26, v_27, v_28, v_29, at_31, h_19, h_21, h_23, h_25, h_30⟩ := gF_o5 hG k_a0
    refine va_get (D := D) (ci := 0) (v := .int v_29) (C := RX0) (T := TX0) (N := 8) hx hb hts in0 hown hK (va_one at_31) 0 rfl rfl 7 (by decide) (hts (.fieldLink RX0 35 "RiverModel$Course" "hours" "I") (List.mem_of_getElem? (i := 5) rfl)) (fun _ h9 => h9) rfl dX0_goHour_60 ?_
    refine lv_pc (pc2 := 63) rfl ?_
    refine lv_iconst (v := 1) hx hb dX0_goHour_63 (by decide) ?_
    refine lv_iadd hx hb dX0_goHour_64 ?_
    refine lv_topi (fun x_32 e_33 => ?_)
    have i_x_32 : x_32.toInt = v_29.toInt + 1 := by rw [e_33]; exact (q_add (by rw [show (1 : Int32).toInt = 1 by decide]; omega) (by rw [show (1 : Int32).toInt = 1 by decide]; omega)).trans (by rw [show (1 : Int32).toInt = 1 by decide])
    refine ty_put (D := D) (ci := 0) (v := .int x_32) (ty := .int) (C := RX0) (T := TX0) (N := 8) (F2 := (gF cI cL cC gC gE (G + 1) gW gA)) hx hb hts in0 tyX0 tyX0_ok nmX0 hown hK hG hS at_31 (by rw [k_a0]; rfl) rfl 7 (by decide) (hts (.fieldLink RX0 35 "RiverModel$Course" "hours" "I") (List.mem_of_getElem? (i := 5) rfl)) (fun _ h9 => h9) rfl (by decide +kernel) rfl rfl (Nat.le_of_ble_eq_true rfl) (by rw [k_a0]; exact ⟨r_18, r_20, r_22, r_24, v_26, v_27, v_28, x_32, rfl, h_19, h_21, h_23, h_25, (by omega)⟩) (fun hG b _ h0 => by obtain ⟨e, g1, g2⟩ := hG b h0; exact ⟨e, g1, gF_mono (by omega) g2⟩) dX0_goHour_65 (fun H locs hG hS at_34 o_35 => ?_)
    have at_34 : va_at D vwCl (a0, .inr (0, [.ref r_18, .ref r_20, .ref r_22, .ref r_24, .long v_26, .long v_27, .long v_28, .int x_32])) H := at_34
    exact ty_vret hx hb hr hlk hG hS True.intro dX0_goHour_68
  have loop : ∀ (k : Nat) (yi : Int32) (H1 : Heap) (locs1 : List Loc) (ls1 : Array Slot), 40 - yi.toInt ≤ (k : Int) → 0 ≤ yi.toInt → yi.toInt ≤ 40 → tG D (gF cI cL cC gC gE G gW gA) t H1 → tF t wrC s.heap H1 locs1 → lv_has ls1 7 [(4, .int yi), (0, .ref a0), (1, .ref a1), (2, .int a2), (3, .int a3)] → WW H1 locs1 (F0 m 7 ls1 []) := by
    intro k
    induction k with
    | zero =>
      intro yi H locs ls hk v0 v1 hG hS hl
      refine (hWW _ _ _).mpr ?_
      refine lv_iload hx hb dX0_goHour_7 (lv_at hl 0 rfl) ?_
      refine lv_aload_n hx hb dX0_goHour_9 rfl (lv_at hl 2 rfl) ?_
      obtain ⟨r_36, r_38, r_40, v_42, v_43, v_44, at_46, h_37, h_39, h_41, h_45⟩ := gF_o3 hG k_a1
      refine va_get (D := D) (ci := 3) (v := .int v_42) (C := RX4) (T := TX4) (N := 6) hx hb hts in4 hown hK (va_one at_46) 0 rfl rfl 3 (by decide) (hts (.fieldLink RX0 75 "RiverModel$Model" "many" "I") (List.mem_of_getElem? (i := 6) rfl)) (fun _ h9 => h9) rfl dX0_goHour_10 ?_
      refine lv_icmp_ge (tgt := 58) hx hb dX0_goHour_13 (by decide) (fun c_47 => ?_) (fun c_47 => ?_)
      · skip
        have c_47 : v_42.toInt ≤ yi.toInt := q_le c_47
        exact (hWW _ _ _).mp (kx yi H locs ls (by omega) (by omega) hG hS (lv_sub hl [0, 1, 2, 3, 4] rfl))
      · skip
        have c_47 : yi.toInt < v_42.toInt := q_nle c_47
        refine lv_pc (pc2 := 16) rfl ?_
        refine lv_iload hx hb dX0_goHour_16 (lv_at hl 0 rfl) ?_
        refine lv_bipush (v := 40) hx hb dX0_goHour_18 (by decide) ?_
        refine lv_icmp_ge (tgt := 58) hx hb dX0_goHour_20 (by decide) (fun c_48 => ?_) (fun c_48 => ?_)
        · skip
          have c_48 : 40 ≤ yi.toInt := q_le c_48
          exact (hWW _ _ _).mp (kx yi H locs ls (by omega) (by omega) hG hS (lv_sub hl [0, 1, 2, 3, 4] rfl))
        · skip
          have c_48 : yi.toInt < 40 := q_nle c_48
          refine lv_aload_n hx hb dX0_goHour_23 rfl (lv_at hl 1 rfl) ?_
          refine lv_aload_n hx hb dX0_goHour_24 rfl (lv_at hl 2 rfl) ?_
          refine lv_iload hx hb dX0_goHour_25 (lv_at hl 0 rfl) ?_
          refine lv_iload_n hx hb dX0_goHour_27 rfl (lv_at hl 3 rfl) ?_
          refine lv_iload_n hx hb dX0_goHour_28 rfl (lv_at hl 4 rfl) ?_
          refine lv_pc (pc2 := 29) rfl ?_
          obtain ⟨r_49, r_51, r_53, r_55, v_57, v_58, v_59, v_60, at_62, h_50, h_52, h_54, h_56, h_61⟩ := gF_o5 hG k_a0
          refine ty_calll ((W.runV (As := [.ref a1, .int yi, .int a2, .int a3]) (rest := []) ⟨hx, hb, hml, hown, hts⟩ (s_X0_amountOf l D t cI cL cC gC gE G gW gA a0 a1 yi a2 a3 k_a0 k_a1) (cwV 4 hts gu_X0_goHour_X0_amountOf_78 rfl rfl rfl (by decide +kernel) ⟨Nat.le_of_ble_eq_true rfl, Nat.le_of_ble_eq_true rfl⟩) (tP_V hG hE at_62 rfl) rfl rfl hl.1 rfl (lv_room (Nat.le_of_ble_eq_true rfl)) dX0_goHour_29 ⟨Nat.le_of_ble_eq_true rfl, Nat.le_of_ble_eq_true rfl⟩)) hS (fun k h => by simp [wr0] at h) (fun z_63 H locs hp_64 hG hS o_65 => ?_)
          have at_46 := va_at.keptC at_46 o_65 k_a1 rfl
          have at_62 := va_at.keptC at_62 o_65 k_a0 rfl
          refine lv_lstore (lv' := [(5, .long z_63), (4, .int yi), (0, .ref a0), (1, .ref a1), (2, .int a2), (3, .int a3)]) hx hb dX0_goHour_32 hl (by decide) rfl (fun ls hl => ?_)
          refine lv_aload_n hx hb dX0_goHour_34 rfl (lv_at hl 2 rfl) ?_
          refine va_get (D := D) (ci := 0) (v := .ref r_51) (C := RX0) (T := TX0) (N := 8) hx hb hts in0 hown hK (va_one at_62) 0 rfl rfl 1 (by decide) (hts (.fieldLink RX0 15 "RiverModel$Course" "moved" "[J") (List.mem_of_getElem? (i := 10) rfl)) (fun _ h9 => h9) rfl dX0_goHour_35 ?_
          refine lv_iload hx hb dX0_goHour_38 (lv_at hl 1 rfl) ?_
          refine lv_lload hx hb dX0_goHour_40 (lv_at hl 0 rfl) ?_
          obtain ⟨f_66, at_67⟩ := gF_o18 hG h_52
          have b_68 : vp_in yi 40 := (q_in (by omega) (by omega))
          refine ty_last (F2 := (gF cI cL cC gC gE G gW gA)) hx hb hK hG hS 1 at_67 (by rw [h_52]; rfl) rfl b_68 (by rw [h_52]; exact ⟨_, rfl⟩) tFF dX0_goHour_42 (fun H locs hG hS at_69 o_70 => ?_)
          have at_46 := va_at.keptK at_46 o_70 h_52 k_a1 rfl
          have at_62 := va_at.keptK at_62 o_70 h_52 k_a0 rfl
          refine lv_aload_n hx hb dX0_goHour_43 rfl (lv_at hl 2 rfl) ?_
          refine lv_pc (pc2 := 44) rfl ?_
          refine lv_aload_n hx hb dX0_goHour_44 rfl (lv_at hl 3 rfl) ?_
          refine lv_iload hx hb dX0_goHour_45 (lv_at hl 1 rfl) ?_
          refine lv_lload hx hb dX0_goHour_47 (lv_at hl 0 rfl) ?_
          refine ty_callv ((W.runV (As := [.ref a1, .int yi, .long z_63]) (rest := []) ⟨hx, hb, hml, hown, hts⟩ (s_X0_move l D t cI cL cC gC gE G gW gA a0 a1 yi z_63 (by omega) k_a0 k_a1) (cwV 3 hts gu_X0_goHour_X0_move_82 rfl rfl rfl (by decide +kernel) ⟨Nat.le_of_ble_eq_true rfl, Nat.le_of_ble_eq_true rfl⟩) (tP_V hG hE at_62 rfl) rfl rfl hl.1 rfl (lv_room (Nat.le_of_ble_eq_true rfl)) dX0_goHour_49 ⟨Nat.le_of_ble_eq_true rfl, Nat.le_of_ble_eq_true rfl⟩)) hS (fun _ h => h) (fun H locs hp_72 hG hS o_73 => ?_)
          have at_46 := va_at.keptC at_46 o_73 k_a1 rfl
          obtain ⟨x_74, e_75⟩ : ∃ y : Int32, y = yi + Int32.ofInt 1 := ⟨_, rfl⟩
          have i_x_74 : x_74.toInt = yi.toInt + 1 := by rw [e_75, show Int32.ofInt 1 = 1 by decide]; exact (q_add (by rw [show (1 : Int32).toInt = 1 by decide]; omega) (by rw [show (1 : Int32).toInt = 1 by decide]; omega)).trans (by rw [show (1 : Int32).toInt = 1 by decide])
          refine lv_iinc (v := x_74) (lv' := [(4, .int x_74), (5, .long z_63), (0, .ref a0), (1, .ref a1), (2, .int a2), (3, .int a3)]) hx hb dX0_goHour_52 hl (k := 1) rfl e_75.symm (by decide) rfl (fun ls hl => ?_)
          refine lv_goto (tgt := 7) hx hb dX0_goHour_55 (by decide) ?_
          exfalso; omega
    | succ k ih =>
      intro yi H locs ls hk v0 v1 hG hS hl
      refine (hWW _ _ _).mpr ?_
      refine lv_iload hx hb dX0_goHour_7 (lv_at hl 0 rfl) ?_
      refine lv_aload_n hx hb dX0_goHour_9 rfl (lv_at hl 2 rfl) ?_
      refine lv_pc (pc2 := 10) rfl ?_
      obtain ⟨r_76, r_78, r_80, v_82, v_83, v_84, at_86, h_77, h_79, h_81, h_85⟩ := gF_o3 hG k_a1
      refine va_get (D := D) (ci := 3) (v := .int v_82) (C := RX4) (T := TX4) (N := 6) hx hb hts in4 hown hK (va_one at_86) 0 rfl rfl 3 (by decide) (hts (.fieldLink RX0 75 "RiverModel$Model" "many" "I") (List.mem_of_getElem? (i := 6) rfl)) (fun _ h9 => h9) rfl dX0_goHour_10 ?_
      refine lv_icmp_ge (tgt := 58) hx hb dX0_goHour_13 (by decide) (fun c_87 => ?_) (fun c_87 => ?_)
      · skip
        have c_87 : v_82.toInt ≤ yi.toInt := q_le c_87
        exact (hWW _ _ _).mp (kx yi H locs ls (by omega) (by omega) hG hS (lv_sub hl [0, 1, 2, 3, 4] rfl))
      · skip
        have c_87 : yi.toInt < v_82.toInt := q_nle c_87
        refine lv_iload hx hb dX0_goHour_16 (lv_at hl 0 rfl) ?_
        refine lv_bipush (v := 40) hx hb dX0_goHour_18 (by decide) ?_
        refine lv_icmp_ge (tgt := 58) hx hb dX0_goHour_20 (by decide) (fun c_88 => ?_) (fun c_88 => ?_)
        · skip
          have c_88 : 40 ≤ yi.toInt := q_le c_88
          exact (hWW _ _ _).mp (kx yi H locs ls (by omega) (by omega) hG hS (lv_sub hl [0, 1, 2, 3, 4] rfl))
        · skip
          have c_88 : yi.toInt < 40 := q_nle c_88
          refine lv_aload_n hx hb dX0_goHour_23 rfl (lv_at hl 1 rfl) ?_
          refine lv_aload_n hx hb dX0_goHour_24 rfl (lv_at hl 2 rfl) ?_
          refine lv_iload hx hb dX0_goHour_25 (lv_at hl 0 rfl) ?_
          refine lv_pc (pc2 := 27) rfl ?_
          refine lv_iload_n hx hb dX0_goHour_27 rfl (lv_at hl 3 rfl) ?_
          refine lv_iload_n hx hb dX0_goHour_28 rfl (lv_at hl 4 rfl) ?_
          obtain ⟨r_89, r_91, r_93, r_95, v_97, v_98, v_99, v_100, at_102, h_90, h_92, h_94, h_96, h_101⟩ := gF_o5 hG k_a0
          refine ty_calll ((W.runV (As := [.ref a1, .int yi, .int a2, .int a3]) (rest := []) ⟨hx, hb, hml, hown, hts⟩ (s_X0_amountOf l D t cI cL cC gC gE G gW gA a0 a1 yi a2 a3 k_a0 k_a1) (cwV 4 hts gu_X0_goHour_X0_amountOf_78 rfl rfl rfl (by decide +kernel) ⟨Nat.le_of_ble_eq_true rfl, Nat.le_of_ble_eq_true rfl⟩) (tP_V hG hE at_102 rfl) rfl rfl hl.1 rfl (lv_room (Nat.le_of_ble_eq_true rfl)) dX0_goHour_29 ⟨Nat.le_of_ble_eq_true rfl, Nat.le_of_ble_eq_true rfl⟩)) hS (fun k h => by simp [wr0] at h) (fun z_103 H locs hp_104 hG hS o_105 => ?_)
          have at_86 := va_at.keptC at_86 o_105 k_a1 rfl
          have at_102 := va_at.keptC at_102 o_105 k_a0 rfl
          refine lv_lstore (lv' := [(5, .long z_103), (4, .int yi), (0, .ref a0), (1, .ref a1), (2, .int a2), (3, .int a3)]) hx hb dX0_goHour_32 hl (by decide) rfl (fun ls hl => ?_)
          refine lv_aload_n hx hb dX0_goHour_34 rfl (lv_at hl 2 rfl) ?_
          refine va_get (D := D) (ci := 0) (v := .ref r_91) (C := RX0) (T := TX0) (N := 8) hx hb hts in0 hown hK (va_one at_102) 0 rfl rfl 1 (by decide) (hts (.fieldLink RX0 15 "RiverModel$Course" "moved" "[J") (List.mem_of_getElem? (i := 10) rfl)) (fun _ h9 => h9) rfl dX0_goHour_35 ?_
          refine lv_iload hx hb dX0_goHour_38 (lv_at hl 1 rfl) ?_
          refine lv_lload hx hb dX0_goHour_40 (lv_at hl 0 rfl) ?_
          refine lv_pc (pc2 := 42) rfl ?_
          obtain ⟨f_106, at_107⟩ := gF_o18 hG h_92
          have b_108 : vp_in yi 40 := (q_in (by omega) (by omega))
          refine ty_last (F2 := (gF cI cL cC gC gE G gW gA)) hx hb hK hG hS 1 at_107 (by rw [h_92]; rfl) rfl b_108 (by rw [h_92]; exact ⟨_, rfl⟩) tFF dX0_goHour_42 (fun H locs hG hS at_109 o_110 => ?_)
          have at_86 := va_at.keptK at_86 o_110 h_92 k_a1 rfl
          have at_102 := va_at.keptK at_102 o_110 h_92 k_a0 rfl
          refine lv_aload_n hx hb dX0_goHour_43 rfl (lv_at hl 2 rfl) ?_
          refine lv_aload_n hx hb dX0_goHour_44 rfl (lv_at hl 3 rfl) ?_
          refine lv_iload hx hb dX0_goHour_45 (lv_at hl 1 rfl) ?_
          refine lv_lload hx hb dX0_goHour_47 (lv_at hl 0 rfl) ?_
          refine ty_callv ((W.runV (As := [.ref a1, .int yi, .long z_103]) (rest := []) ⟨hx, hb, hml, hown, hts⟩ (s_X0_move l D t cI cL cC gC gE G gW gA a0 a1 yi z_103 (by omega) k_a0 k_a1) (cwV 3 hts gu_X0_goHour_X0_move_82 rfl rfl rfl (by decide +kernel) ⟨Nat.le_of_ble_eq_true rfl, Nat.le_of_ble_eq_true rfl⟩) (tP_V hG hE at_102 rfl) rfl rfl hl.1 rfl (lv_room (Nat.le_of_ble_eq_true rfl)) dX0_goHour_49 ⟨Nat.le_of_ble_eq_true rfl, Nat.le_of_ble_eq_true rfl⟩)) hS (fun _ h => h) (fun H locs hp_112 hG hS o_113 => ?_)
          have at_86 := va_at.keptC at_86 o_113 k_a1 rfl
          obtain ⟨x_114, e_115⟩ : ∃ y : Int32, y = yi + Int32.ofInt 1 := ⟨_, rfl⟩
          have i_x_114 : x_114.toInt = yi.toInt + 1 := by rw [e_115, show Int32.ofInt 1 = 1 by decide]; exact (q_add (by rw [show (1 : Int32).toInt = 1 by decide]; omega) (by rw [show (1 : Int32).toInt = 1 by decide]; omega)).trans (by rw [show (1 : Int32).toInt = 1 by decide])
          refine lv_iinc (v := x_114) (lv' := [(4, .int x_114), (5, .long z_103), (0, .ref a0), (1, .ref a1), (2, .int a2), (3, .int a3)]) hx hb dX0_goHour_52 hl (k := 1) rfl e_115.symm (by decide) rfl (fun ls hl => ?_)
          refine lv_goto (tgt := 7) hx hb dX0_goHour_55 (by decide) ?_
          exact (hWW _ _ _).mp (ih x_114 H locs ls (by omega) (by omega) (by omega) hG hS (lv_sub hl [0, 2, 3, 4, 5] rfl))
  have hz_yi : (0 : Int32).toInt = 0 := by decide
  exact loop (40 - 0 : Int).toNat 0 H locs ls (by omega) (by omega) (by omega) hG hS (lv_sub hl [0, 1, 2, 3, 4] rfl)

def uX0_goHourBy : List Cond := .code yX0_goHourBy cX0_goHourBy 3 none :: ([.fieldLink RX0 35 "RiverModel$Course" "hours" "I", .methodLink RX0 60 yX6_rainIn, .instanceMethod yX6_rainIn, .selects RX6 yX6_rainIn yX6_rainIn, .initialized RX6, .methodLink RX0 65 yX6_tempIn, .instanceMethod yX6_tempIn, .selects RX6 yX6_tempIn yX6_tempIn, .methodLink RX0 68 yX0_goHour, .instanceMethod yX0_goHour, .selects RX0 yX0_goHour yX0_goHour, .initialized RX0, .code yX6_rainIn cX6_rainIn 2 (some .int), .initialized RX9, .static yX9_isOutside, .fieldLink RX6 9 "RiverModel$Sky" "rains" "[I", .code yX9_isOutside cX9_isOutside 3 (some .boolean), .code yX6_tempIn cX6_tempIn 2 (some .int), .fieldLink RX6 15 "RiverModel$Sky" "temps" "[I", .code yX0_goHour cX0_goHour 7 none, .methodLink RX0 72 yX0_bringDue, .instanceMethod yX0_bringDue, .selects RX0 yX0_bringDue yX0_bringDue, .fieldLink RX0 75 "RiverModel$Model" "many" "I", .methodLink RX0 78 yX0_amountOf, .instanceMethod yX0_amountOf, .selects RX0 yX0_amountOf yX0_amountOf, .fieldLink RX0 15 "RiverModel$Course" "moved" "[J", .methodLink RX0 82 yX0_move, .instanceMethod yX0_move, .selects RX0 yX0_move yX0_move, .code yX0_bringDue cX0_bringDue 3 none, .fieldLink RX0 9 "RiverModel$Course" "held" "[J", .fieldLink RX0 22 "RiverModel$Course" "due" "[J", .code yX0_amountOf cX0_amountOf 11 (some .long), .methodLink RX0 86 yX4_cell, .instanceMethod yX4_cell, .selects RX4 yX4_cell yX4_cell, .initialized RX4, .static yX9_isNoStore, .methodLink RX0 110 yX4_gateOf, .instanceMethod yX4_gateOf, .selects RX4 yX4_gateOf yX4_gateOf, .methodLink RX0 113 yX0_openingOf, .instanceMethod yX0_openingOf, .selects RX0 yX0_openingOf yX0_openingOf, .methodLink RX0 107 Lib.MathLoose.min_long.x, .static Lib.MathLoose.min_long.x, .initialized "java/lang/Math", .code Lib.MathLoose.min_long.x Lib.MathLoose.min_long.code 4 (some .long), .methodLink RX0 94 yX0_leakOf, .static yX0_leakOf, .constantLong RX0 117 (100), .methodLink RX0 98 yX4_capacityOf, .instanceMethod yX4_capacityOf, .selects RX4 yX4_capacityOf yX4_capacityOf, .methodLink RX0 101 Lib.MathLoose.max_long.x, .static Lib.MathLoose.max_long.x, .code Lib.MathLoose.max_long.x Lib.MathLoose.max_long.code 4 (some .long), .constantLong RX0 119 (10), .code yX4_cell cX4_cell 3 (some .int), .fieldLink RX4 9 "RiverModel$Model" "cells" "[I", .code yX9_isNoStore cX9_isNoStore 1 (some .boolean), .code yX4_gateOf cX4_gateOf 3 (some .int), .fieldLink RX4 28 "RiverModel$Model" "gates" "I", .fieldLink RX4 18 "RiverModel$Model" "gateItems" "[I", .code yX0_openingOf cX0_openingOf 2 (some .long), .static yX9_isNoGate, .fieldLink RX0 18 "RiverModel$Course" "openings" "[I", .code yX9_isNoGate cX9_isNoGate 1 (some .boolean), .code yX0_leakOf cX0_leakOf 8 (some .long), .code yX4_capacityOf cX4_capacityOf 2 (some .int), .methodLink RX4 66 yX4_hasStore, .instanceMethod yX4_hasStore, .selects RX4 yX4_hasStore yX4_hasStore, .fieldLink RX4 15 "RiverModel$Model" "storeItems" "[I", .methodLink RX4 73 yX4_cell, .code yX4_hasStore cX4_hasStore 2 (some .boolean), .code yX0_move cX0_move 8 none, .fieldLink RX0 25 "RiverModel$Course" "rained" "J", .methodLink RX0 124 yX0_send, .instanceMethod yX0_send, .selects RX0 yX0_send yX0_send, .fieldLink RX0 32 "RiverModel$Course" "sea" "J", .fieldLink RX0 29 "RiverModel$Course" "air" "J", .code yX0_send cX0_send 5 none] ++ wsX00 ++ wsX60 ++ wsX40)
set_option maxRecDepth 20000 in
theorem gu_X0_goHourBy_X6_rainIn_60 : GoodIn uX0_goHourBy (wsV RX0 60 RX6 yX6_rainIn uX6_rainIn) := goodIn_r _ [2, 3, 4, 5, 13, 14, 15, 16, 17, 95, 96] rfl (by decide +kernel)
set_option maxRecDepth 20000 in
theorem gu_X0_goHourBy_X6_tempIn_65 : GoodIn uX0_goHourBy (wsV RX0 65 RX6 yX6_tempIn uX6_tempIn) := goodIn_r _ [6, 7, 8, 5, 18, 14, 15, 19, 17, 95, 96] rfl (by decide +kernel)
set_option maxRecDepth 20000 in
theorem gu_X0_goHourBy_X0_goHour_68 : GoodIn uX0_goHourBy (wsV RX0 68 RX0 yX0_goHour uX0_goHour) := goodIn_r _ [9, 10, 11, 12, 20, 21, 22, 23, 12, 1, 24, 25, 26, 27, 28, 29, 30, 31, 32, 33, 34, 35, 36, 37, 38, 39, 14, 40, 41, 42, 43, 44, 45, 46, 47, 48, 49, 50, 51, 52, 53, 54, 55, 56, 57, 58, 59, 60, 61, 62, 63, 64, 65, 66, 67, 68, 69, 70, 71, 72, 73, 74, 75, 76, 77, 78, 79, 80, 81, 82, 83, 84, 85, 86, 15, 17, 87, 88, 89, 90, 91, 92, 93, 94, 97, 98, 99, 100, 101, 102] rfl (by decide +kernel)
set_option maxHeartbeats 4000000 in
set_option maxRecDepth 100000 in
theorem s_X0_goHourBy (l : Launch) (D : va_G) (t : Nat → Nat) (cI cL cC : ClassId) (gC : Int32) (gE : Int32) (G : Nat) (gW : Nat → Int32) (gA : Nat → Int32) (a0 : Nat) (a1 : Nat) (a2 : Nat) (hGb : G ≤ 200000000) (k_a0 : t a0 = 5) (k_a1 : t a1 = 3) (k_a2 : t a2 = 4) : tM l yX0_goHourBy uX0_goHourBy 4 99 D (gF cI cL cC gC gE G gW gA) (gF cI cL cC gC gE (G + 1) gW gA) t cI cL cC [.ref a0, .ref a1, .ref a2] wrC (pV (True)) := by
  refine tM.ofW (cc := cX0_goHourBy) (maxL := 3) (ret := none) (by decide) rfl (Nat.le_of_ble_eq_true rfl) ?_
  intro p e s m below meth c hx hb hr hml hown hts hlk H locs hG hK hE hS ls hl
  have hl : lv_has ls 3 [(0, .ref a0), (1, .ref a1), (2, .ref a2)] := hl
  have in0 : ∀ w ∈ wsX00, w ∈ uX0_goHourBy := fun w h => List.mem_cons_of_mem _ (List.mem_append_left _ (List.mem_append_left _ (List.mem_append_right _ h)))
  refine lv_aload_n hx hb dX0_goHourBy_0 rfl (lv_at hl 0 rfl) ?_
  refine lv_aload_n hx hb dX0_goHourBy_1 rfl (lv_at hl 1 rfl) ?_
  refine lv_aload_n hx hb dX0_goHourBy_2 rfl (lv_at hl 2 rfl) ?_
  refine lv_aload_n hx hb dX0_goHourBy_3 rfl (lv_at hl 0 rfl) ?_
  obtain ⟨r_1, r_3, r_5, r_7, v_9, v_10, v_11, v_12, at_14, h_2, h_4, h_6, h_8, h_13⟩ := gF_o5 hG k_a0
  refine va_get (D := D) (ci := 0) (v := .int v_12) (C := RX0) (T := TX0) (N := 8) hx hb hts in0 hown hK (va_one at_14) 0 rfl rfl 7 (by decide) (hts (.fieldLink RX0 35 "RiverModel$Course" "hours" "I") (List.mem_of_getElem? (i := 1) rfl)) (fun _ h9 => h9) rfl dX0_goHourBy_4 ?_
  obtain ⟨r_15, r_17, at_19, h_16, h_18⟩ := gF_o4 hG k_a2
  refine ty_calli ((W.runV (As := [.int v_12]) (rest := [.ref a1, .ref a0]) ⟨hx, hb, hml, hown, hts⟩ (s_X6_rainIn l D t cI cL cC gC gE G gW gA a2 v_12 k_a2) (cwV 1 hts gu_X0_goHourBy_X6_rainIn_60 rfl rfl rfl (by decide +kernel) ⟨Nat.le_of_ble_eq_true rfl, Nat.le_of_ble_eq_true rfl⟩) (tP_V hG hE at_19 rfl) rfl rfl hl.1 rfl (lv_room (Nat.le_of_ble_eq_true rfl)) dX0_goHourBy_7 ⟨Nat.le_of_ble_eq_true rfl, Nat.le_of_ble_eq_true rfl⟩)) hS (fun k h => by simp [wr0] at h) (fun r_20 H locs hp_21 hG hS o_22 => ?_)
  have at_14 := va_at.keptC at_14 o_22 k_a0 rfl
  have at_19 := va_at.keptC at_19 o_22 k_a2 rfl
  refine lv_aload_n hx hb dX0_goHourBy_10 rfl (lv_at hl 2 rfl) ?_
  refine lv_pc (pc2 := 11) rfl ?_
  refine lv_aload_n hx hb dX0_goHourBy_11 rfl (lv_at hl 0 rfl) ?_
  refine va_get (D := D) (ci := 0) (v := .int v_12) (C := RX0) (T := TX0) (N := 8) hx hb hts in0 hown hK (va_one at_14) 0 rfl rfl 7 (by decide) (hts (.fieldLink RX0 35 "RiverModel$Course" "hours" "I") (List.mem_of_getElem? (i := 1) rfl)) (fun _ h9 => h9) rfl dX0_goHourBy_12 ?_
  refine ty_calli ((W.runV (As := [.int v_12]) (rest := [.int r_20, .ref a1, .ref a0]) ⟨hx, hb, hml, hown, hts⟩ (s_X6_tempIn l D t cI cL cC gC gE G gW gA a2 v_12 k_a2) (cwV 1 hts gu_X0_goHourBy_X6_tempIn_65 rfl rfl rfl (by decide +kernel) ⟨Nat.le_of_ble_eq_true rfl, Nat.le_of_ble_eq_true rfl⟩) (tP_V hG hE at_19 rfl) rfl rfl hl.1 rfl (lv_room (Nat.le_of_ble_eq_true rfl)) dX0_goHourBy_15 ⟨Nat.le_of_ble_eq_true rfl, Nat.le_of_ble_eq_true rfl⟩)) hS (fun k h => by simp [wr0] at h) (fun r_23 H locs hp_24 hG hS o_25 => ?_)
  have at_14 := va_at.keptC at_14 o_25 k_a0 rfl
  have at_19 := va_at.keptC at_19 o_25 k_a2 rfl
  refine ty_callv ((W.runV (As := [.ref a1, .int r_20, .int r_23]) (rest := []) ⟨hx, hb, hml, hown, hts⟩ (s_X0_goHour l D t cI cL cC gC gE G gW gA a0 a1 r_20 r_23 (by omega) k_a0 k_a1) (cwV 3 hts gu_X0_goHourBy_X0_goHour_68 rfl rfl rfl (by decide +kernel) ⟨Nat.le_of_ble_eq_true rfl, Nat.le_of_ble_eq_true rfl⟩) (tP_V hG hE at_14 rfl) rfl rfl hl.1 rfl (lv_room (Nat.le_of_ble_eq_true rfl)) dX0_goHourBy_18 ⟨Nat.le_of_ble_eq_true rfl, Nat.le_of_ble_eq_true rfl⟩)) hS (fun _ h => h) (fun H locs hp_27 hG hS o_28 => ?_)
  have at_19 := va_at.keptC at_19 o_28 k_a2 rfl
  exact ty_vret hx hb hr hlk hG hS True.intro dX0_goHourBy_21

def uX0_heldByAll : List Cond := .code yX0_heldByAll cX0_heldByAll 4 (some .long) :: ([.fieldLink RX0 9 "RiverModel$Course" "held" "[J"] ++ wsX00)
set_option maxHeartbeats 4000000 in
set_option maxRecDepth 100000 in
theorem s_X0_heldByAll (l : Launch) (D : va_G) (t : Nat → Nat) (cI cL cC : ClassId) (gC : Int32) (gE : Int32) (G : Nat) (gW : Nat → Int32) (gA : Nat → Int32) (a0 : Nat) (k_a0 : t a0 = 5) : tM l yX0_heldByAll uX0_heldByAll 0 0 D (gF cI cL cC gC gE G gW gA) (gF cI cL cC gC gE G gW gA) t cI cL cC [.ref a0] wr0 (pL (fun r => True)) := by
  refine tM.ofW (cc := cX0_heldByAll) (maxL := 4) (ret := (some .long)) (by decide) rfl (Nat.le_of_ble_eq_true rfl) ?_
  intro p e s m below meth c hx hb hr hml hown hts hlk H locs hG hK hE hS ls hl
  have hl : lv_has ls 4 [(0, .ref a0)] := hl
  have in0 : ∀ w ∈ wsX00, w ∈ uX0_heldByAll := fun w h => List.mem_cons_of_mem _ (List.mem_append_right _ h)
  refine lv_lconst (v := 0) hx hb dX0_heldByAll_0 (by decide) ?_
  refine lv_lstore_n (lv' := [(1, .long 0), (0, .ref a0)]) hx hb dX0_heldByAll_1 rfl hl (by decide) rfl (fun ls hl => ?_)
  refine lv_iconst (v := 0) hx hb dX0_heldByAll_2 (by decide) ?_
  refine lv_istore_n (lv' := [(3, .int 0), (1, .long 0), (0, .ref a0)]) hx hb dX0_heldByAll_3 rfl hl (by decide) rfl (fun ls hl => ?_)
  refine lv_pc (pc2 := 4) rfl ?_
  refine lp_gen (fun WW hWW => ?_)
  have kx : ∀ (yk : Int32) (ys : Int64) (H1 : Heap) (locs1 : List Loc) (ls1 : Array Slot), 0 ≤ yk.toInt → yk.toInt ≤ 16 → tG D (gF cI cL cC gC gE G gW gA) t H1 → tF t wr0 s.heap H1 locs1 → lv_has ls1 4 [(3, .int yk), (1, .long ys), (0, .ref a0)] → WW H1 locs1 (F0 m 25 ls1 []) := by
    intro yk ys H locs ls v0 v1 hG hS hl
    refine (hWW _ _ _).mpr ?_
    refine lv_lload_n hx hb dX0_heldByAll_25 rfl (lv_at hl 1 rfl) ?_
    exact ty_lret hx hb hr hlk hG hS True.intro dX0_heldByAll_26
  have loop : ∀ (k : Nat) (yk : Int32) (ys : Int64) (H1 : Heap) (locs1 : List Loc) (ls1 : Array Slot), 16 - yk.toInt ≤ (k : Int) → 0 ≤ yk.toInt → yk.toInt ≤ 16 → tG D (gF cI cL cC gC gE G gW gA) t H1 → tF t wr0 s.heap H1 locs1 → lv_has ls1 4 [(3, .int yk), (1, .long ys), (0, .ref a0)] → WW H1 locs1 (F0 m 4 ls1 []) := by
    intro k
    induction k with
    | zero =>
      intro yk ys H locs ls hk v0 v1 hG hS hl
      refine (hWW _ _ _).mpr ?_
      refine lv_iload_n hx hb dX0_heldByAll_4 rfl (lv_at hl 0 rfl) ?_
      refine lv_pc (pc2 := 5) rfl ?_
      refine lv_bipush (v := 16) hx hb dX0_heldByAll_5 (by decide) ?_
      refine lv_icmp_ge (tgt := 25) hx hb dX0_heldByAll_7 (by decide) (fun c_1 => ?_) (fun c_1 => ?_)
      · skip
        have c_1 : 16 ≤ yk.toInt := q_le c_1
        exact (hWW _ _ _).mp (kx yk ys H locs ls (by omega) (by omega) hG hS (lv_sub hl [0, 1, 2] rfl))
      · skip
        have c_1 : yk.toInt < 16 := q_nle c_1
        refine lv_lload_n hx hb dX0_heldByAll_10 rfl (lv_at hl 1 rfl) ?_
        refine lv_aload_n hx hb dX0_heldByAll_11 rfl (lv_at hl 2 rfl) ?_
        obtain ⟨r_2, r_4, r_6, r_8, v_10, v_11, v_12, v_13, at_15, h_3, h_5, h_7, h_9, h_14⟩ := gF_o5 hG k_a0
        refine va_get (D := D) (ci := 0) (v := .ref r_2) (C := RX0) (T := TX0) (N := 8) hx hb hts in0 hown hK (va_one at_15) 0 rfl rfl 0 (by decide) (hts (.fieldLink RX0 9 "RiverModel$Course" "held" "[J") (List.mem_of_getElem? (i := 1) rfl)) (fun _ h9 => h9) rfl dX0_heldByAll_12 ?_
        refine lv_iload_n hx hb dX0_heldByAll_15 rfl (lv_at hl 0 rfl) ?_
        obtain ⟨f_16, at_17⟩ := gF_o17 hG h_3
        have b_18 : vp_in yk 16 := (q_in (by omega) (by omega))
        refine va_lald hx hb hK (va_one at_17) 0 1 rfl rfl b_18 dX0_heldByAll_16 ?_
        refine lv_topl (fun z_19 e_20 => ?_)
        refine lv_ladd hx hb dX0_heldByAll_17 ?_
        refine lv_topl (fun z_21 e_22 => ?_)
        refine lv_pc (pc2 := 18) rfl ?_
        refine lv_lstore_n (lv' := [(1, .long z_21), (3, .int yk), (0, .ref a0)]) hx hb dX0_heldByAll_18 rfl hl (by decide) rfl (fun ls hl => ?_)
        obtain ⟨x_23, e_24⟩ : ∃ y : Int32, y = yk + Int32.ofInt 1 := ⟨_, rfl⟩
        have i_x_23 : x_23.toInt = yk.toInt + 1 := by rw [e_24, show Int32.ofInt 1 = 1 by decide]; exact (q_add (by rw [show (1 : Int32).toInt = 1 by decide]; omega) (by rw [show (1 : Int32).toInt = 1 by decide]; omega)).trans (by rw [show (1 : Int32).toInt = 1 by decide])
        refine lv_iinc (v := x_23) (lv' := [(3, .int x_23), (1, .long z_21), (0, .ref a0)]) hx hb dX0_heldByAll_19 hl (k := 1) rfl e_24.symm (by decide) rfl (fun ls hl => ?_)
        refine lv_goto (tgt := 4) hx hb dX0_heldByAll_22 (by decide) ?_
        exfalso; omega
    | succ k ih =>
      intro yk ys H locs ls hk v0 v1 hG hS hl
      refine (hWW _ _ _).mpr ?_
      refine lv_iload_n hx hb dX0_heldByAll_4 rfl (lv_at hl 0 rfl) ?_
      refine lv_bipush (v := 16) hx hb dX0_heldByAll_5 (by decide) ?_
      refine lv_icmp_ge (tgt := 25) hx hb dX0_heldByAll_7 (by decide) (fun c_25 => ?_) (fun c_25 => ?_)
      · skip
        have c_25 : 16 ≤ yk.toInt := q_le c_25
        exact (hWW _ _ _).mp (kx yk ys H locs ls (by omega) (by omega) hG hS (lv_sub hl [0, 1, 2] rfl))
      · skip
        have c_25 : yk.toInt < 16 := q_nle c_25
        refine lv_lload_n hx hb dX0_heldByAll_10 rfl (lv_at hl 1 rfl) ?_
        refine lv_aload_n hx hb dX0_heldByAll_11 rfl (lv_at hl 2 rfl) ?_
        refine lv_pc (pc2 := 12) rfl ?_
        obtain ⟨r_26, r_28, r_30, r_32, v_34, v_35, v_36, v_37, at_39, h_27, h_29, h_31, h_33, h_38⟩ := gF_o5 hG k_a0
        refine va_get (D := D) (ci := 0) (v := .ref r_26) (C := RX0) (T := TX0) (N := 8) hx hb hts in0 hown hK (va_one at_39) 0 rfl rfl 0 (by decide) (hts (.fieldLink RX0 9 "RiverModel$Course" "held" "[J") (List.mem_of_getElem? (i := 1) rfl)) (fun _ h9 => h9) rfl dX0_heldByAll_12 ?_
        refine lv_iload_n hx hb dX0_heldByAll_15 rfl (lv_at hl 0 rfl) ?_
        obtain ⟨f_40, at_41⟩ := gF_o17 hG h_27
        have b_42 : vp_in yk 16 := (q_in (by omega) (by omega))
        refine va_lald hx hb hK (va_one at_41) 0 1 rfl rfl b_42 dX0_heldByAll_16 ?_
        refine lv_topl (fun z_43 e_44 => ?_)
        refine lv_ladd hx hb dX0_heldByAll_17 ?_
        refine lv_topl (fun z_45 e_46 => ?_)
        refine lv_lstore_n (lv' := [(1, .long z_45), (3, .int yk), (0, .ref a0)]) hx hb dX0_heldByAll_18 rfl hl (by decide) rfl (fun ls hl => ?_)
        obtain ⟨x_47, e_48⟩ : ∃ y : Int32, y = yk + Int32.ofInt 1 := ⟨_, rfl⟩
        have i_x_47 : x_47.toInt = yk.toInt + 1 := by rw [e_48, show Int32.ofInt 1 = 1 by decide]; exact (q_add (by rw [show (1 : Int32).toInt = 1 by decide]; omega) (by rw [show (1 : Int32).toInt = 1 by decide]; omega)).trans (by rw [show (1 : Int32).toInt = 1 by decide])
        refine lv_iinc (v := x_47) (lv' := [(3, .int x_47), (1, .long z_45), (0, .ref a0)]) hx hb dX0_heldByAll_19 hl (k := 1) rfl e_48.symm (by decide) rfl (fun ls hl => ?_)
        refine lv_goto (tgt := 4) hx hb dX0_heldByAll_22 (by decide) ?_
        exact (hWW _ _ _).mp (ih x_47 z_45 H locs ls (by omega) (by omega) (by omega) hG hS (lv_sub hl [0, 1, 2] rfl))
  have hz_yk : (0 : Int32).toInt = 0 := by decide
  exact loop (16 - 0 : Int).toNat 0 0 H locs ls (by omega) (by omega) (by omega) hG hS (lv_sub hl [0, 1, 2] rfl)

def uX0_underWayTo : List Cond := .code yX0_underWayTo cX0_underWayTo 5 (some .long) :: ([.initialized RX9, .static yX9_isNoStore, .fieldLink RX0 22 "RiverModel$Course" "due" "[J", .code yX9_isNoStore cX9_isNoStore 1 (some .boolean)] ++ wsX00)
set_option maxRecDepth 20000 in
theorem gu_X0_underWayTo_X9_isNoStore_n : GoodIn uX0_underWayTo (uX9_isNoStore) := goodIn_r _ [4] rfl (by decide +kernel)
set_option maxHeartbeats 4000000 in
set_option maxRecDepth 100000 in
theorem s_X0_underWayTo (l : Launch) (D : va_G) (t : Nat → Nat) (cI cL cC : ClassId) (gC : Int32) (gE : Int32) (G : Nat) (gW : Nat → Int32) (gA : Nat → Int32) (a0 : Nat) (a1 : Int32) (k_a0 : t a0 = 5) : tM l yX0_underWayTo uX0_underWayTo 1 20 D (gF cI cL cC gC gE G gW gA) (gF cI cL cC gC gE G gW gA) t cI cL cC [.ref a0, .int a1] wr0 (pL (fun r => True)) := by
  refine tM.ofW (cc := cX0_underWayTo) (maxL := 5) (ret := (some .long)) (by decide) rfl (Nat.le_of_ble_eq_true rfl) ?_
  intro p e s m below meth c hx hb hr hml hown hts hlk H locs hG hK hE hS ls hl
  have hl : lv_has ls 5 [(0, .ref a0), (1, .int a1)] := hl
  have in0 : ∀ w ∈ wsX00, w ∈ uX0_underWayTo := fun w h => List.mem_cons_of_mem _ (List.mem_append_right _ h)
  refine lv_lconst (v := 0) hx hb dX0_underWayTo_0 (by decide) ?_
  refine lv_lstore_n (lv' := [(2, .long 0), (0, .ref a0), (1, .int a1)]) hx hb dX0_underWayTo_1 rfl hl (by decide) rfl (fun ls hl => ?_)
  refine lv_iconst (v := 0) hx hb dX0_underWayTo_2 (by decide) ?_
  refine lv_istore (lv' := [(4, .int 0), (2, .long 0), (0, .ref a0), (1, .int a1)]) hx hb dX0_underWayTo_3 hl (by decide) rfl (fun ls hl => ?_)
  refine lv_pc (pc2 := 5) rfl ?_
  refine lp_gen (fun WW hWW => ?_)
  have kx : ∀ (yk : Int32) (ys : Int64) (H1 : Heap) (locs1 : List Loc) (ls1 : Array Slot), 0 ≤ yk.toInt → yk.toInt ≤ 13 → tG D (gF cI cL cC gC gE G gW gA) t H1 → tF t wr0 s.heap H1 locs1 → lv_has ls1 5 [(4, .int yk), (2, .long ys), (0, .ref a0), (1, .int a1)] → WW H1 locs1 (F0 m 40 ls1 []) := by
    intro yk ys H locs ls v0 v1 hG hS hl
    refine (hWW _ _ _).mpr ?_
    refine lv_lload_n hx hb dX0_underWayTo_40 rfl (lv_at hl 1 rfl) ?_
    exact ty_lret hx hb hr hlk hG hS True.intro dX0_underWayTo_41
  have loop : ∀ (k : Nat) (yk : Int32) (ys : Int64) (H1 : Heap) (locs1 : List Loc) (ls1 : Array Slot), 13 - yk.toInt ≤ (k : Int) → 0 ≤ yk.toInt → yk.toInt ≤ 13 → tG D (gF cI cL cC gC gE G gW gA) t H1 → tF t wr0 s.heap H1 locs1 → lv_has ls1 5 [(4, .int yk), (2, .long ys), (0, .ref a0), (1, .int a1)] → WW H1 locs1 (F0 m 5 ls1 []) := by
    intro k
    induction k with
    | zero =>
      intro yk ys H locs ls hk v0 v1 hG hS hl
      refine (hWW _ _ _).mpr ?_
      refine lv_iload hx hb dX0_underWayTo_5 (lv_at hl 0 rfl) ?_
      refine lv_pc (pc2 := 7) rfl ?_
      refine lv_bipush (v := 13) hx hb dX0_underWayTo_7 (by decide) ?_
      refine lv_icmp_ge (tgt := 40) hx hb dX0_underWayTo_9 (by decide) (fun c_1 => ?_) (fun c_1 => ?_)
      · skip
        have c_1 : 13 ≤ yk.toInt := q_le c_1
        exact (hWW _ _ _).mp (kx yk ys H locs ls (by omega) (by omega) hG hS (lv_sub hl [0, 1, 2, 3] rfl))
      · skip
        have c_1 : yk.toInt < 13 := q_nle c_1
        refine lv_iload_n hx hb dX0_underWayTo_12 rfl (lv_at hl 3 rfl) ?_
        refine ty_calli (tRun (va_runSN (As := [.int a1]) (rest := []) ⟨hx, hb, hml, hown, hts⟩ (s_X9_isNoStore l D t cI cL cC gC gE G gW gA a1 ) ⟨(va_cnB 1 hts gu_X0_underWayTo_X9_isNoStore_n rfl rfl rfl (hE.2.1 _ (List.mem_of_getElem? (i := 12) rfl)) (hts (.initialized RX9) (List.mem_of_getElem? (i := 1) rfl)) (by decide +kernel) ⟨Nat.le_of_ble_eq_true rfl, Nat.le_of_ble_eq_true rfl⟩), (hts (.static yX9_isNoStore) (List.mem_of_getElem? (i := 2) rfl)), trivial⟩ (tP_S hG hE) rfl rfl hl.1 rfl (lv_room (Nat.le_of_ble_eq_true rfl)) dX0_underWayTo_13 ⟨Nat.le_of_ble_eq_true rfl, Nat.le_of_ble_eq_true rfl⟩)) hS (fun _ h => h) (fun r_2 H locs hp_3 hG hS o_4 => ?_)
        rcases hp_3 with ⟨rfl, hc_48⟩ | ⟨rfl, hc_49, hc_50⟩
        · skip
          refine lv_if_ne (tgt := 40) hx hb dX0_underWayTo_16 (by decide) (fun _ => ?_) (fun q => absurd q (by decide))
          exact (hWW _ _ _).mp (kx yk ys H locs ls (by omega) (by omega) hG hS (lv_sub hl [0, 1, 2, 3] rfl))
        · skip
          refine lv_if_ne (tgt := 40) hx hb dX0_underWayTo_16 (by decide) (fun q => absurd rfl q) (fun _ => ?_)
          refine lv_lload_n hx hb dX0_underWayTo_19 rfl (lv_at hl 1 rfl) ?_
          refine lv_aload_n hx hb dX0_underWayTo_20 rfl (lv_at hl 2 rfl) ?_
          refine lv_pc (pc2 := 21) rfl ?_
          obtain ⟨r_5, r_7, r_9, r_11, v_13, v_14, v_15, v_16, at_18, h_6, h_8, h_10, h_12, h_17⟩ := gF_o5 hG k_a0
          refine va_get (D := D) (ci := 0) (v := .ref r_11) (C := RX0) (T := TX0) (N := 8) hx hb hts in0 hown hK (va_one at_18) 0 rfl rfl 3 (by decide) (hts (.fieldLink RX0 22 "RiverModel$Course" "due" "[J") (List.mem_of_getElem? (i := 3) rfl)) (fun _ h9 => h9) rfl dX0_underWayTo_21 ?_
          refine lv_iload hx hb dX0_underWayTo_24 (lv_at hl 0 rfl) ?_
          refine lv_bipush (v := 16) hx hb dX0_underWayTo_26 (by decide) ?_
          refine lv_imul hx hb dX0_underWayTo_28 ?_
          refine lv_topi (fun x_19 e_20 => ?_)
          have i_x_19 : x_19.toInt = yk.toInt * 16 := by rw [e_20]; exact (q_mul (by rw [show (16 : Int32).toInt = 16 by decide]; omega) (by rw [show (16 : Int32).toInt = 16 by decide]; omega)).trans (by rw [show (16 : Int32).toInt = 16 by decide])
          refine lv_iload_n hx hb dX0_underWayTo_29 rfl (lv_at hl 3 rfl) ?_
          refine lv_iadd hx hb dX0_underWayTo_30 ?_
          refine lv_topi (fun x_21 e_22 => ?_)
          have i_x_21 : x_21.toInt = x_19.toInt + a1.toInt := by rw [e_22]; exact (q_add (by omega) (by omega)).trans (by rfl)
          obtain ⟨f_23, at_24⟩ := gF_o20 hG h_12
          have b_25 : vp_in x_21 208 := (q_in (by omega) (by omega))
          refine va_lald hx hb hK (va_one at_24) 0 1 rfl rfl b_25 dX0_underWayTo_31 ?_
          refine lv_topl (fun z_26 e_27 => ?_)
          refine lv_ladd hx hb dX0_underWayTo_32 ?_
          refine lv_topl (fun z_28 e_29 => ?_)
          refine lv_pc (pc2 := 33) rfl ?_
          refine lv_lstore_n (lv' := [(2, .long z_28), (4, .int yk), (0, .ref a0), (1, .int a1)]) hx hb dX0_underWayTo_33 rfl hl (by decide) rfl (fun ls hl => ?_)
          obtain ⟨x_30, e_31⟩ : ∃ y : Int32, y = yk + Int32.ofInt 1 := ⟨_, rfl⟩
          have i_x_30 : x_30.toInt = yk.toInt + 1 := by rw [e_31, show Int32.ofInt 1 = 1 by decide]; exact (q_add (by rw [show (1 : Int32).toInt = 1 by decide]; omega) (by rw [show (1 : Int32).toInt = 1 by decide]; omega)).trans (by rw [show (1 : Int32).toInt = 1 by decide])
          refine lv_iinc (v := x_30) (lv' := [(4, .int x_30), (2, .long z_28), (0, .ref a0), (1, .int a1)]) hx hb dX0_underWayTo_34 hl (k := 1) rfl e_31.symm (by decide) rfl (fun ls hl => ?_)
          refine lv_goto (tgt := 5) hx hb dX0_underWayTo_37 (by decide) ?_
          exfalso; omega
    | succ k ih =>
      intro yk ys H locs ls hk v0 v1 hG hS hl
      refine (hWW _ _ _).mpr ?_
      refine lv_iload hx hb dX0_underWayTo_5 (lv_at hl 0 rfl) ?_
      refine lv_bipush (v := 13) hx hb dX0_underWayTo_7 (by decide) ?_
      refine lv_icmp_ge (tgt := 40) hx hb dX0_underWayTo_9 (by decide) (fun c_32 => ?_) (fun c_32 => ?_)
      · skip
        have c_32 : 13 ≤ yk.toInt := q_le c_32
        exact (hWW _ _ _).mp (kx yk ys H locs ls (by omega) (by omega) hG hS (lv_sub hl [0, 1, 2, 3] rfl))
      · skip
        have c_32 : yk.toInt < 13 := q_nle c_32
        refine lv_iload_n hx hb dX0_underWayTo_12 rfl (lv_at hl 3 rfl) ?_
        refine ty_calli (tRun (va_runSN (As := [.int a1]) (rest := []) ⟨hx, hb, hml, hown, hts⟩ (s_X9_isNoStore l D t cI cL cC gC gE G gW gA a1 ) ⟨(va_cnB 1 hts gu_X0_underWayTo_X9_isNoStore_n rfl rfl rfl (hE.2.1 _ (List.mem_of_getElem? (i := 12) rfl)) (hts (.initialized RX9) (List.mem_of_getElem? (i := 1) rfl)) (by decide +kernel) ⟨Nat.le_of_ble_eq_true rfl, Nat.le_of_ble_eq_true rfl⟩), (hts (.static yX9_isNoStore) (List.mem_of_getElem? (i := 2) rfl)), trivial⟩ (tP_S hG hE) rfl rfl hl.1 rfl (lv_room (Nat.le_of_ble_eq_true rfl)) dX0_underWayTo_13 ⟨Nat.le_of_ble_eq_true rfl, Nat.le_of_ble_eq_true rfl⟩)) hS (fun _ h => h) (fun r_33 H locs hp_34 hG hS o_35 => ?_)
        rcases hp_34 with ⟨rfl, hc_51⟩ | ⟨rfl, hc_52, hc_53⟩
        · skip
          refine lv_pc (pc2 := 16) rfl ?_
          refine lv_if_ne (tgt := 40) hx hb dX0_underWayTo_16 (by decide) (fun _ => ?_) (fun q => absurd q (by decide))
          exact (hWW _ _ _).mp (kx yk ys H locs ls (by omega) (by omega) hG hS (lv_sub hl [0, 1, 2, 3] rfl))
        · skip
          refine lv_if_ne (tgt := 40) hx hb dX0_underWayTo_16 (by decide) (fun q => absurd rfl q) (fun _ => ?_)
          refine lv_lload_n hx hb dX0_underWayTo_19 rfl (lv_at hl 1 rfl) ?_
          refine lv_aload_n hx hb dX0_underWayTo_20 rfl (lv_at hl 2 rfl) ?_
          obtain ⟨r_36, r_38, r_40, r_42, v_44, v_45, v_46, v_47, at_49, h_37, h_39, h_41, h_43, h_48⟩ := gF_o5 hG k_a0
          refine va_get (D := D) (ci := 0) (v := .ref r_42) (C := RX0) (T := TX0) (N := 8) hx hb hts in0 hown hK (va_one at_49) 0 rfl rfl 3 (by decide) (hts (.fieldLink RX0 22 "RiverModel$Course" "due" "[J") (List.mem_of_getElem? (i := 3) rfl)) (fun _ h9 => h9) rfl dX0_underWayTo_21 ?_
          refine lv_iload hx hb dX0_underWayTo_24 (lv_at hl 0 rfl) ?_
          refine lv_bipush (v := 16) hx hb dX0_underWayTo_26 (by decide) ?_
          refine lv_imul hx hb dX0_underWayTo_28 ?_
          refine lv_topi (fun x_50 e_51 => ?_)
          have i_x_50 : x_50.toInt = yk.toInt * 16 := by rw [e_51]; exact (q_mul (by rw [show (16 : Int32).toInt = 16 by decide]; omega) (by rw [show (16 : Int32).toInt = 16 by decide]; omega)).trans (by rw [show (16 : Int32).toInt = 16 by decide])
          refine lv_pc (pc2 := 29) rfl ?_
          refine lv_iload_n hx hb dX0_underWayTo_29 rfl (lv_at hl 3 rfl) ?_
          refine lv_iadd hx hb dX0_underWayTo_30 ?_
          refine lv_topi (fun x_52 e_53 => ?_)
          have i_x_52 : x_52.toInt = x_50.toInt + a1.toInt := by rw [e_53]; exact (q_add (by omega) (by omega)).trans (by rfl)
          obtain ⟨f_54, at_55⟩ := gF_o20 hG h_43
          have b_56 : vp_in x_52 208 := (q_in (by omega) (by omega))
          refine va_lald hx hb hK (va_one at_55) 0 1 rfl rfl b_56 dX0_underWayTo_31 ?_
          refine lv_topl (fun z_57 e_58 => ?_)
          refine lv_ladd hx hb dX0_underWayTo_32 ?_
          refine lv_topl (fun z_59 e_60 => ?_)
          refine lv_lstore_n (lv' := [(2, .long z_59), (4, .int yk), (0, .ref a0), (1, .int a1)]) hx hb dX0_underWayTo_33 rfl hl (by decide) rfl (fun ls hl => ?_)
          obtain ⟨x_61, e_62⟩ : ∃ y : Int32, y = yk + Int32.ofInt 1 := ⟨_, rfl⟩
          have i_x_61 : x_61.toInt = yk.toInt + 1 := by rw [e_62, show Int32.ofInt 1 = 1 by decide]; exact (q_add (by rw [show (1 : Int32).toInt = 1 by decide]; omega) (by rw [show (1 : Int32).toInt = 1 by decide]; omega)).trans (by rw [show (1 : Int32).toInt = 1 by decide])
          refine lv_iinc (v := x_61) (lv' := [(4, .int x_61), (2, .long z_59), (0, .ref a0), (1, .int a1)]) hx hb dX0_underWayTo_34 hl (k := 1) rfl e_62.symm (by decide) rfl (fun ls hl => ?_)
          refine lv_goto (tgt := 5) hx hb dX0_underWayTo_37 (by decide) ?_
          exact (hWW _ _ _).mp (ih x_61 z_59 H locs ls (by omega) (by omega) (by omega) hG hS (lv_sub hl [0, 1, 2, 3] rfl))
  have hz_yk : (0 : Int32).toInt = 0 := by decide
  exact loop (13 - 0 : Int).toNat 0 0 H locs ls (by omega) (by omega) (by omega) hG hS (lv_sub hl [0, 1, 2, 3] rfl)

def uX0_underWayToAll : List Cond := .code yX0_underWayToAll cX0_underWayToAll 4 (some .long) :: ([.fieldLink RX0 22 "RiverModel$Course" "due" "[J"] ++ wsX00)
set_option maxHeartbeats 4000000 in
set_option maxRecDepth 100000 in
theorem s_X0_underWayToAll (l : Launch) (D : va_G) (t : Nat → Nat) (cI cL cC : ClassId) (gC : Int32) (gE : Int32) (G : Nat) (gW : Nat → Int32) (gA : Nat → Int32) (a0 : Nat) (k_a0 : t a0 = 5) : tM l yX0_underWayToAll uX0_underWayToAll 0 0 D (gF cI cL cC gC gE G gW gA) (gF cI cL cC gC gE G gW gA) t cI cL cC [.ref a0] wr0 (pL (fun r => True)) := by
  refine tM.ofW (cc := cX0_underWayToAll) (maxL := 4) (ret := (some .long)) (by decide) rfl (Nat.le_of_ble_eq_true rfl) ?_
  intro p e s m below meth c hx hb hr hml hown hts hlk H locs hG hK hE hS ls hl
  have hl : lv_has ls 4 [(0, .ref a0)] := hl
  have in0 : ∀ w ∈ wsX00, w ∈ uX0_underWayToAll := fun w h => List.mem_cons_of_mem _ (List.mem_append_right _ h)
  refine lv_lconst (v := 0) hx hb dX0_underWayToAll_0 (by decide) ?_
  refine lv_lstore_n (lv' := [(1, .long 0), (0, .ref a0)]) hx hb dX0_underWayToAll_1 rfl hl (by decide) rfl (fun ls hl => ?_)
  refine lv_iconst (v := 0) hx hb dX0_underWayToAll_2 (by decide) ?_
  refine lv_istore_n (lv' := [(3, .int 0), (1, .long 0), (0, .ref a0)]) hx hb dX0_underWayToAll_3 rfl hl (by decide) rfl (fun ls hl => ?_)
  refine lv_pc (pc2 := 4) rfl ?_
  refine lp_gen (fun WW hWW => ?_)
  have kx : ∀ (yk : Int32) (ys : Int64) (H1 : Heap) (locs1 : List Loc) (ls1 : Array Slot), 0 ≤ yk.toInt → yk.toInt ≤ 208 → tG D (gF cI cL cC gC gE G gW gA) t H1 → tF t wr0 s.heap H1 locs1 → lv_has ls1 4 [(3, .int yk), (1, .long ys), (0, .ref a0)] → WW H1 locs1 (F0 m 28 ls1 []) := by
    intro yk ys H locs ls v0 v1 hG hS hl
    refine (hWW _ _ _).mpr ?_
    refine lv_lload_n hx hb dX0_underWayToAll_28 rfl (lv_at hl 1 rfl) ?_
    exact ty_lret hx hb hr hlk hG hS True.intro dX0_underWayToAll_29
  have loop : ∀ (k : Nat) (yk : Int32) (ys : Int64) (H1 : Heap) (locs1 : List Loc) (ls1 : Array Slot), 208 - yk.toInt ≤ (k : Int) → 0 ≤ yk.toInt → yk.toInt ≤ 208 → tG D (gF cI cL cC gC gE G gW gA) t H1 → tF t wr0 s.heap H1 locs1 → lv_has ls1 4 [(3, .int yk), (1, .long ys), (0, .ref a0)] → WW H1 locs1 (F0 m 4 ls1 []) := by
    intro k
    induction k with
    | zero =>
      intro yk ys H locs ls hk v0 v1 hG hS hl
      refine (hWW _ _ _).mpr ?_
      refine lv_iload_n hx hb dX0_underWayToAll_4 rfl (lv_at hl 0 rfl) ?_
      refine lv_pc (pc2 := 5) rfl ?_
      refine lv_aload_n hx hb dX0_underWayToAll_5 rfl (lv_at hl 2 rfl) ?_
      obtain ⟨r_1, r_3, r_5, r_7, v_9, v_10, v_11, v_12, at_14, h_2, h_4, h_6, h_8, h_13⟩ := gF_o5 hG k_a0
      refine va_get (D := D) (ci := 0) (v := .ref r_7) (C := RX0) (T := TX0) (N := 8) hx hb hts in0 hown hK (va_one at_14) 0 rfl rfl 3 (by decide) (hts (.fieldLink RX0 22 "RiverModel$Course" "due" "[J") (List.mem_of_getElem? (i := 1) rfl)) (fun _ h9 => h9) rfl dX0_underWayToAll_6 ?_
      obtain ⟨f_15, at_16⟩ := gF_o20 hG h_8
      refine va_alen (v := 208) hx hb hK (va_one at_16) 0 1 rfl rfl rfl dX0_underWayToAll_9 ?_
      refine lv_icmp_ge (tgt := 28) hx hb dX0_underWayToAll_10 (by decide) (fun c_17 => ?_) (fun c_17 => ?_)
      · skip
        have c_17 : 208 ≤ yk.toInt := q_le c_17
        exact (hWW _ _ _).mp (kx yk ys H locs ls (by omega) (by omega) hG hS (lv_sub hl [0, 1, 2] rfl))
      · skip
        have c_17 : yk.toInt < 208 := q_nle c_17
        refine lv_lload_n hx hb dX0_underWayToAll_13 rfl (lv_at hl 1 rfl) ?_
        refine lv_aload_n hx hb dX0_underWayToAll_14 rfl (lv_at hl 2 rfl) ?_
        refine va_get (D := D) (ci := 0) (v := .ref r_7) (C := RX0) (T := TX0) (N := 8) hx hb hts in0 hown hK (va_one at_14) 0 rfl rfl 3 (by decide) (hts (.fieldLink RX0 22 "RiverModel$Course" "due" "[J") (List.mem_of_getElem? (i := 1) rfl)) (fun _ h9 => h9) rfl dX0_underWayToAll_15 ?_
        refine lv_iload_n hx hb dX0_underWayToAll_18 rfl (lv_at hl 0 rfl) ?_
        refine lv_pc (pc2 := 19) rfl ?_
        have b_18 : vp_in yk 208 := (q_in (by omega) (by omega))
        refine va_lald hx hb hK (va_one at_16) 0 1 rfl rfl b_18 dX0_underWayToAll_19 ?_
        refine lv_topl (fun z_19 e_20 => ?_)
        refine lv_ladd hx hb dX0_underWayToAll_20 ?_
        refine lv_topl (fun z_21 e_22 => ?_)
        refine lv_lstore_n (lv' := [(1, .long z_21), (3, .int yk), (0, .ref a0)]) hx hb dX0_underWayToAll_21 rfl hl (by decide) rfl (fun ls hl => ?_)
        obtain ⟨x_23, e_24⟩ : ∃ y : Int32, y = yk + Int32.ofInt 1 := ⟨_, rfl⟩
        have i_x_23 : x_23.toInt = yk.toInt + 1 := by rw [e_24, show Int32.ofInt 1 = 1 by decide]; exact (q_add (by rw [show (1 : Int32).toInt = 1 by decide]; omega) (by rw [show (1 : Int32).toInt = 1 by decide]; omega)).trans (by rw [show (1 : Int32).toInt = 1 by decide])
        refine lv_iinc (v := x_23) (lv' := [(3, .int x_23), (1, .long z_21), (0, .ref a0)]) hx hb dX0_underWayToAll_22 hl (k := 1) rfl e_24.symm (by decide) rfl (fun ls hl => ?_)
        refine lv_goto (tgt := 4) hx hb dX0_underWayToAll_25 (by decide) ?_
        exfalso; omega
    | succ k ih =>
      intro yk ys H locs ls hk v0 v1 hG hS hl
      refine (hWW _ _ _).mpr ?_
      refine lv_iload_n hx hb dX0_underWayToAll_4 rfl (lv_at hl 0 rfl) ?_
      refine lv_aload_n hx hb dX0_underWayToAll_5 rfl (lv_at hl 2 rfl) ?_
      obtain ⟨r_25, r_27, r_29, r_31, v_33, v_34, v_35, v_36, at_38, h_26, h_28, h_30, h_32, h_37⟩ := gF_o5 hG k_a0
      refine va_get (D := D) (ci := 0) (v := .ref r_31) (C := RX0) (T := TX0) (N := 8) hx hb hts in0 hown hK (va_one at_38) 0 rfl rfl 3 (by decide) (hts (.fieldLink RX0 22 "RiverModel$Course" "due" "[J") (List.mem_of_getElem? (i := 1) rfl)) (fun _ h9 => h9) rfl dX0_underWayToAll_6 ?_
      refine lv_pc (pc2 := 9) rfl ?_
      obtain ⟨f_39, at_40⟩ := gF_o20 hG h_32
      refine va_alen (v := 208) hx hb hK (va_one at_40) 0 1 rfl rfl rfl dX0_underWayToAll_9 ?_
      refine lv_icmp_ge (tgt := 28) hx hb dX0_underWayToAll_10 (by decide) (fun c_41 => ?_) (fun c_41 => ?_)
      · skip
        have c_41 : 208 ≤ yk.toInt := q_le c_41
        exact (hWW _ _ _).mp (kx yk ys H locs ls (by omega) (by omega) hG hS (lv_sub hl [0, 1, 2] rfl))
      · skip
        have c_41 : yk.toInt < 208 := q_nle c_41
        refine lv_lload_n hx hb dX0_underWayToAll_13 rfl (lv_at hl 1 rfl) ?_
        refine lv_aload_n hx hb dX0_underWayToAll_14 rfl (lv_at hl 2 rfl) ?_
        refine va_get (D := D) (ci := 0) (v := .ref r_31) (C := RX0) (T := TX0) (N := 8) hx hb hts in0 hown hK (va_one at_38) 0 rfl rfl 3 (by decide) (hts (.fieldLink RX0 22 "RiverModel$Course" "due" "[J") (List.mem_of_getElem? (i := 1) rfl)) (fun _ h9 => h9) rfl dX0_underWayToAll_15 ?_
        refine lv_iload_n hx hb dX0_underWayToAll_18 rfl (lv_at hl 0 rfl) ?_
        have b_42 : vp_in yk 208 := (q_in (by omega) (by omega))
        refine va_lald hx hb hK (va_one at_40) 0 1 rfl rfl b_42 dX0_underWayToAll_19 ?_
        refine lv_topl (fun z_43 e_44 => ?_)
        refine lv_ladd hx hb dX0_underWayToAll_20 ?_
        refine lv_topl (fun z_45 e_46 => ?_)
        refine lv_pc (pc2 := 21) rfl ?_
        refine lv_lstore_n (lv' := [(1, .long z_45), (3, .int yk), (0, .ref a0)]) hx hb dX0_underWayToAll_21 rfl hl (by decide) rfl (fun ls hl => ?_)
        obtain ⟨x_47, e_48⟩ : ∃ y : Int32, y = yk + Int32.ofInt 1 := ⟨_, rfl⟩
        have i_x_47 : x_47.toInt = yk.toInt + 1 := by rw [e_48, show Int32.ofInt 1 = 1 by decide]; exact (q_add (by rw [show (1 : Int32).toInt = 1 by decide]; omega) (by rw [show (1 : Int32).toInt = 1 by decide]; omega)).trans (by rw [show (1 : Int32).toInt = 1 by decide])
        refine lv_iinc (v := x_47) (lv' := [(3, .int x_47), (1, .long z_45), (0, .ref a0)]) hx hb dX0_underWayToAll_22 hl (k := 1) rfl e_48.symm (by decide) rfl (fun ls hl => ?_)
        refine lv_goto (tgt := 4) hx hb dX0_underWayToAll_25 (by decide) ?_
        exact (hWW _ _ _).mp (ih x_47 z_45 H locs ls (by omega) (by omega) (by omega) hG hS (lv_sub hl [0, 1, 2] rfl))
  have hz_yk : (0 : Int32).toInt = 0 := by decide
  exact loop (208 - 0 : Int).toNat 0 0 H locs ls (by omega) (by omega) (by omega) hG hS (lv_sub hl [0, 1, 2] rfl)

def uX1_unsetAll : List Cond := .code yX1_unsetAll cX1_unsetAll 1 none :: ([.fieldLink RX1 9 "RiverModel$Gauges" "whats" "[I", .methodLink RX1 25 yJ7_fill_53178, .static yJ7_fill_53178, .initialized RJ7, .fieldLink RX1 18 "RiverModel$Gauges" "seen" "[I", .code yJ7_fill_53178 cJ7_fill_53178 4 none] ++ wsX10)
set_option maxRecDepth 20000 in
theorem gu_X1_unsetAll_J7_fill_53178_25 : GoodIn uX1_unsetAll (va_wsS RX1 25 yJ7_fill_53178 wsJ7_fill_53178) := goodIn_r _ [2, 3, 4, 6] rfl (by decide +kernel)
set_option maxHeartbeats 4000000 in
set_option maxRecDepth 100000 in
theorem s_X1_unsetAll (l : Launch) (D : va_G) (t : Nat → Nat) (cI cL cC : ClassId) (gC : Int32) (gE : Int32) (G : Nat) (gW : Nat → Int32) (gA : Nat → Int32) (a0 : Nat) (k_a0 : t a0 = 6) : tM l yX1_unsetAll uX1_unsetAll 1 23 D (gF cI cL cC gC gE G gW gA) (gF cI cL cC gC gE G gW gA) t cI cL cC [.ref a0] wrG (pV (True)) := by
  refine tM.ofW (cc := cX1_unsetAll) (maxL := 1) (ret := none) (by decide) rfl (Nat.le_of_ble_eq_true rfl) ?_
  intro p e s m below meth c hx hb hr hml hown hts hlk H locs hG hK hE hS ls hl
  have hl : lv_has ls 1 [(0, .ref a0)] := hl
  have in1 : ∀ w ∈ wsX10, w ∈ uX1_unsetAll := fun w h => List.mem_cons_of_mem _ (List.mem_append_right _ h)
  refine lv_aload_n hx hb dX1_unsetAll_0 rfl (lv_at hl 0 rfl) ?_
  obtain ⟨r_1, r_3, r_5, at_7, h_2, h_4, h_6⟩ := gF_o6 hG k_a0
  refine va_get (D := D) (ci := 1) (v := .ref r_1) (C := RX1) (T := TX1) (N := 4) hx hb hts in1 hown hK (va_one at_7) 0 rfl rfl 0 (by decide) (hts (.fieldLink RX1 9 "RiverModel$Gauges" "whats" "[I") (List.mem_of_getElem? (i := 1) rfl)) (fun _ h9 => h9) rfl dX1_unsetAll_1 ?_
  refine lv_bipush (v := (-4)) hx hb dX1_unsetAll_4 (by decide) ?_
  obtain ⟨f_8, at_9⟩ := gF_o21 hG h_2
  refine nw_row (W.runS (As := [.ref r_1, .int (-4)]) (rest := []) ⟨hx, hb, hml, hown, hts⟩ (c_fillI l D cI cL cC r_1 4 f_8 (-4) (by decide)) (va_cwS 2 hts gu_X1_unsetAll_J7_fill_53178_25 rfl rfl rfl (by decide +kernel) ⟨Nat.le_of_ble_eq_true rfl, Nat.le_of_ble_eq_true rfl⟩) (rP_S at_9 hE) rfl rfl hl.1 rfl (lv_room (Nat.le_of_ble_eq_true rfl)) dX1_unsetAll_6 ⟨Nat.le_of_ble_eq_true rfl, Nat.le_of_ble_eq_true rfl⟩) (fun H L ee hp at_15 hz_13 o_11 hL_14 => ?_)
  obtain ⟨g_10, rfl, hg_12⟩ := hp
  replace hG : tG D (gF cI cL cC gC gE G gW gA) t H := tG.set hG at_15 (by rw [h_2]; exact ⟨_, rfl⟩) o_11
  replace hS := tF.row hS hz_13 o_11 hL_14 (by rw [h_2]; rfl)
  generalize _ ++ L = locs at hS ⊢
  have at_7 := va_at.keptK at_7 o_11 h_2 k_a0 rfl
  refine lv_aload_n hx hb dX1_unsetAll_9 rfl (lv_at hl 0 rfl) ?_
  refine va_get (D := D) (ci := 1) (v := .ref r_5) (C := RX1) (T := TX1) (N := 4) hx hb hts in1 hown hK (va_one at_7) 0 rfl rfl 2 (by decide) (hts (.fieldLink RX1 18 "RiverModel$Gauges" "seen" "[I") (List.mem_of_getElem? (i := 5) rfl)) (fun _ h9 => h9) rfl dX1_unsetAll_10 ?_
  refine lv_iconst (v := (-1)) hx hb dX1_unsetAll_13 (by decide) ?_
  refine lv_pc (pc2 := 14) rfl ?_
  obtain ⟨f_16, at_17⟩ := gF_o23 hG h_6
  refine nw_row (W.runS (As := [.ref r_5, .int (-1)]) (rest := []) ⟨hx, hb, hml, hown, hts⟩ (c_fillI l D cI cL cC r_5 384 f_16 (-1) (by decide)) (va_cwS 2 hts gu_X1_unsetAll_J7_fill_53178_25 rfl rfl rfl (by decide +kernel) ⟨Nat.le_of_ble_eq_true rfl, Nat.le_of_ble_eq_true rfl⟩) (rP_S at_17 hE) rfl rfl hl.1 rfl (lv_room (Nat.le_of_ble_eq_true rfl)) dX1_unsetAll_14 ⟨Nat.le_of_ble_eq_true rfl, Nat.le_of_ble_eq_true rfl⟩) (fun H L ee hp at_23 hz_21 o_19 hL_22 => ?_)
  obtain ⟨g_18, rfl, hg_20⟩ := hp
  replace hG : tG D (gF cI cL cC gC gE G gW gA) t H := tG.set hG at_23 (by rw [h_6]; exact ⟨_, rfl⟩) o_19
  replace hS := tF.row hS hz_21 o_19 hL_22 (by rw [h_6]; rfl)
  generalize _ ++ L = locs at hS ⊢
  have at_7 := va_at.keptK at_7 o_19 h_6 k_a0 rfl
  exact ty_vret hx hb hr hlk hG hS True.intro dX1_unsetAll_17

def uX1_set : List Cond := .code yX1_set cX1_set 5 none :: ([.initialized RX9, .static yX9_isNoGauge, .fieldLink RX1 9 "RiverModel$Gauges" "whats" "[I", .fieldLink RX1 15 "RiverModel$Gauges" "places" "[I", .fieldLink RX1 18 "RiverModel$Gauges" "seen" "[I", .code yX9_isNoGauge cX9_isNoGauge 1 (some .boolean)] ++ wsX10)
set_option maxRecDepth 20000 in
theorem gu_X1_set_X9_isNoGauge_n : GoodIn uX1_set (uX9_isNoGauge) := goodIn_r _ [6] rfl (by decide +kernel)
set_option maxHeartbeats 4000000 in
set_option maxRecDepth 100000 in
theorem s_X1_set (l : Launch) (D : va_G) (t : Nat → Nat) (cI cL cC : ClassId) (gC : Int32) (gE : Int32) (G : Nat) (gW : Nat → Int32) (gA : Nat → Int32) (a0 : Nat) (a1 : Int32) (a2 : Int32) (a3 : Int32) (k_a0 : t a0 = 6) : tM l yX1_set uX1_set 1 20 D (gF cI cL cC gC gE G gW gA) (gF cI cL cC gC gE G gW gA) t cI cL cC [.ref a0, .int a1, .int a2, .int a3] wrG (pV (True)) := by
  refine tM.ofW (cc := cX1_set) (maxL := 5) (ret := none) (by decide) rfl (Nat.le_of_ble_eq_true rfl) ?_
  intro p e s m below meth c hx hb hr hml hown hts hlk H locs hG hK hE hS ls hl
  have hl : lv_has ls 5 [(0, .ref a0), (1, .int a1), (2, .int a2), (3, .int a3)] := hl
  have in1 : ∀ w ∈ wsX10, w ∈ uX1_set := fun w h => List.mem_cons_of_mem _ (List.mem_append_right _ h)
  refine lv_iload_n hx hb dX1_set_0 rfl (lv_at hl 1 rfl) ?_
  refine ty_calli (tRun (va_runSN (As := [.int a1]) (rest := []) ⟨hx, hb, hml, hown, hts⟩ (s_X9_isNoGauge l D t cI cL cC gC gE G gW gA a1 ) ⟨(va_cnB 1 hts gu_X1_set_X9_isNoGauge_n rfl rfl rfl (hE.2.1 _ (List.mem_of_getElem? (i := 15) rfl)) (hts (.initialized RX9) (List.mem_of_getElem? (i := 1) rfl)) (by decide +kernel) ⟨Nat.le_of_ble_eq_true rfl, Nat.le_of_ble_eq_true rfl⟩), (hts (.static yX9_isNoGauge) (List.mem_of_getElem? (i := 2) rfl)), trivial⟩ (tP_S hG hE) rfl rfl hl.1 rfl (lv_room (Nat.le_of_ble_eq_true rfl)) dX1_set_1 ⟨Nat.le_of_ble_eq_true rfl, Nat.le_of_ble_eq_true rfl⟩)) hS (fun k h => by simp [wr0] at h) (fun r_1 H locs hp_2 hG hS o_3 => ?_)
  rcases hp_2 with ⟨rfl, hc_54⟩ | ⟨rfl, hc_55, hc_56⟩
  · skip
    refine lv_if_eq (tgt := 8) hx hb dX1_set_4 (by decide) (fun q => absurd q (by decide)) (fun _ => ?_)
    exact ty_vret hx hb hr hlk hG hS True.intro dX1_set_7
  · skip
    refine lv_if_eq (tgt := 8) hx hb dX1_set_4 (by decide) (fun _ => ?_) (fun q => absurd (by decide) q)
    refine lv_aload_n hx hb dX1_set_8 rfl (lv_at hl 0 rfl) ?_
    obtain ⟨r_4, r_6, r_8, at_10, h_5, h_7, h_9⟩ := gF_o6 hG k_a0
    refine va_get (D := D) (ci := 1) (v := .ref r_4) (C := RX1) (T := TX1) (N := 4) hx hb hts in1 hown hK (va_one at_10) 0 rfl rfl 0 (by decide) (hts (.fieldLink RX1 9 "RiverModel$Gauges" "whats" "[I") (List.mem_of_getElem? (i := 3) rfl)) (fun _ h9 => h9) rfl dX1_set_9 ?_
    refine lv_pc (pc2 := 12) rfl ?_
    refine lv_iload_n hx hb dX1_set_12 rfl (lv_at hl 1 rfl) ?_
    refine lv_iload_n hx hb dX1_set_13 rfl (lv_at hl 2 rfl) ?_
    obtain ⟨f_11, at_12⟩ := gF_o21 hG h_5
    have b_13 : vp_in a1 4 := (q_in (by omega) (by omega))
    refine ty_iast (F2 := (gF cI cL cC gC gE G gW gA)) hx hb hK hG hS 0 at_12 (by rw [h_5]; rfl) rfl b_13 (by rw [h_5]; exact ⟨_, rfl⟩) tFF dX1_set_14 (fun H locs hG hS at_14 o_15 => ?_)
    have at_10 := va_at.keptK at_10 o_15 h_5 k_a0 rfl
    refine lv_aload_n hx hb dX1_set_15 rfl (lv_at hl 0 rfl) ?_
    refine va_get (D := D) (ci := 1) (v := .ref r_6) (C := RX1) (T := TX1) (N := 4) hx hb hts in1 hown hK (va_one at_10) 0 rfl rfl 1 (by decide) (hts (.fieldLink RX1 15 "RiverModel$Gauges" "places" "[I") (List.mem_of_getElem? (i := 4) rfl)) (fun _ h9 => h9) rfl dX1_set_16 ?_
    refine lv_iload_n hx hb dX1_set_19 rfl (lv_at hl 1 rfl) ?_
    refine lv_iload_n hx hb dX1_set_20 rfl (lv_at hl 3 rfl) ?_
    obtain ⟨f_16, at_17⟩ := gF_o22 hG h_7
    have b_18 : vp_in a1 4 := (q_in (by omega) (by omega))
    refine ty_iast (F2 := (gF cI cL cC gC gE G gW gA)) hx hb hK hG hS 0 at_17 (by rw [h_7]; rfl) rfl b_18 (by rw [h_7]; exact ⟨_, rfl⟩) tFF dX1_set_21 (fun H locs hG hS at_19 o_20 => ?_)
    have at_10 := va_at.keptK at_10 o_20 h_7 k_a0 rfl
    refine lv_pc (pc2 := 22) rfl ?_
    refine lv_iconst (v := 0) hx hb dX1_set_22 (by decide) ?_
    refine lv_istore (lv' := [(4, .int 0), (0, .ref a0), (1, .int a1), (2, .int a2), (3, .int a3)]) hx hb dX1_set_23 hl (by decide) rfl (fun ls hl => ?_)
    refine lv_pc (pc2 := 25) rfl ?_
    refine lp_gen (fun WW hWW => ?_)
    have kx : ∀ (yk : Int32) (H1 : Heap) (locs1 : List Loc) (ls1 : Array Slot), 0 ≤ yk.toInt → yk.toInt ≤ 96 → tG D (gF cI cL cC gC gE G gW gA) t H1 → tF t wrG s.heap H1 locs1 → lv_has ls1 5 [(4, .int yk), (0, .ref a0), (1, .int a1), (2, .int a2), (3, .int a3)] → WW H1 locs1 (F0 m 51 ls1 []) := by
      intro yk H locs ls v0 v1 hG hS hl
      refine (hWW _ _ _).mpr ?_
      exact ty_vret hx hb hr hlk hG hS True.intro dX1_set_51
    have loop : ∀ (k : Nat) (yk : Int32) (H1 : Heap) (locs1 : List Loc) (ls1 : Array Slot), 96 - yk.toInt ≤ (k : Int) → 0 ≤ yk.toInt → yk.toInt ≤ 96 → tG D (gF cI cL cC gC gE G gW gA) t H1 → tF t wrG s.heap H1 locs1 → lv_has ls1 5 [(4, .int yk), (0, .ref a0), (1, .int a1), (2, .int a2), (3, .int a3)] → WW H1 locs1 (F0 m 25 ls1 []) := by
      intro k
      induction k with
      | zero =>
        intro yk H locs ls hk v0 v1 hG hS hl
        refine (hWW _ _ _).mpr ?_
        refine lv_iload hx hb dX1_set_25 (lv_at hl 0 rfl) ?_
        refine lv_bipush (v := 96) hx hb dX1_set_27 (by decide) ?_
        refine lv_icmp_ge (tgt := 51) hx hb dX1_set_29 (by decide) (fun c_21 => ?_) (fun c_21 => ?_)
        · skip
          have c_21 : 96 ≤ yk.toInt := q_le c_21
          exact (hWW _ _ _).mp (kx yk H locs ls (by omega) (by omega) hG hS (lv_sub hl [0, 1, 2, 3, 4] rfl))
        · skip
          have c_21 : yk.toInt < 96 := q_nle c_21
          refine lv_aload_n hx hb dX1_set_32 rfl (lv_at hl 1 rfl) ?_
          obtain ⟨r_22, r_24, r_26, at_28, h_23, h_25, h_27⟩ := gF_o6 hG k_a0
          refine va_get (D := D) (ci := 1) (v := .ref r_26) (C := RX1) (T := TX1) (N := 4) hx hb hts in1 hown hK (va_one at_28) 0 rfl rfl 2 (by decide) (hts (.fieldLink RX1 18 "RiverModel$Gauges" "seen" "[I") (List.mem_of_getElem? (i := 5) rfl)) (fun _ h9 => h9) rfl dX1_set_33 ?_
          refine lv_pc (pc2 := 36) rfl ?_
          refine lv_iload_n hx hb dX1_set_36 rfl (lv_at hl 2 rfl) ?_
          refine lv_bipush (v := 96) hx hb dX1_set_37 (by decide) ?_
          refine lv_imul hx hb dX1_set_39 ?_
          refine lv_topi (fun x_29 e_30 => ?_)
          have i_x_29 : x_29.toInt = a1.toInt * 96 := by rw [e_30]; exact (q_mul (by rw [show (96 : Int32).toInt = 96 by decide]; omega) (by rw [show (96 : Int32).toInt = 96 by decide]; omega)).trans (by rw [show (96 : Int32).toInt = 96 by decide])
          refine lv_iload hx hb dX1_set_40 (lv_at hl 0 rfl) ?_
          refine lv_iadd hx hb dX1_set_42 ?_
          refine lv_topi (fun x_31 e_32 => ?_)
          have i_x_31 : x_31.toInt = x_29.toInt + yk.toInt := by rw [e_32]; exact (q_add (by omega) (by omega)).trans (by rfl)
          refine lv_iconst (v := (-1)) hx hb dX1_set_43 (by decide) ?_
          obtain ⟨f_33, at_34⟩ := gF_o23 hG h_27
          have b_35 : vp_in x_31 384 := (q_in (by omega) (by omega))
          refine ty_iast (F2 := (gF cI cL cC gC gE G gW gA)) hx hb hK hG hS 0 at_34 (by rw [h_27]; rfl) rfl b_35 (by rw [h_27]; exact ⟨_, rfl⟩) tFF dX1_set_44 (fun H locs hG hS at_36 o_37 => ?_)
          have at_28 := va_at.keptK at_28 o_37 h_27 k_a0 rfl
          obtain ⟨x_38, e_39⟩ : ∃ y : Int32, y = yk + Int32.ofInt 1 := ⟨_, rfl⟩
          have i_x_38 : x_38.toInt = yk.toInt + 1 := by rw [e_39, show Int32.ofInt 1 = 1 by decide]; exact (q_add (by rw [show (1 : Int32).toInt = 1 by decide]; omega) (by rw [show (1 : Int32).toInt = 1 by decide]; omega)).trans (by rw [show (1 : Int32).toInt = 1 by decide])
          refine lv_iinc (v := x_38) (lv' := [(4, .int x_38), (0, .ref a0), (1, .int a1), (2, .int a2), (3, .int a3)]) hx hb dX1_set_45 hl (k := 0) rfl e_39.symm (by decide) rfl (fun ls hl => ?_)
          refine lv_pc (pc2 := 48) rfl ?_
          refine lv_goto (tgt := 25) hx hb dX1_set_48 (by decide) ?_
          exfalso; omega
      | succ k ih =>
        intro yk H locs ls hk v0 v1 hG hS hl
        refine (hWW _ _ _).mpr ?_
        refine lv_iload hx hb dX1_set_25 (lv_at hl 0 rfl) ?_
        refine lv_bipush (v := 96) hx hb dX1_set_27 (by decide) ?_
        refine lv_icmp_ge (tgt := 51) hx hb dX1_set_29 (by decide) (fun c_40 => ?_) (fun c_40 => ?_)
        · skip
          have c_40 : 96 ≤ yk.toInt := q_le c_40
          exact (hWW _ _ _).mp (kx yk H locs ls (by omega) (by omega) hG hS (lv_sub hl [0, 1, 2, 3, 4] rfl))
        · skip
          have c_40 : yk.toInt < 96 := q_nle c_40
          refine lv_aload_n hx hb dX1_set_32 rfl (lv_at hl 1 rfl) ?_
          obtain ⟨r_41, r_43, r_45, at_47, h_42, h_44, h_46⟩ := gF_o6 hG k_a0
          refine va_get (D := D) (ci := 1) (v := .ref r_45) (C := RX1) (T := TX1) (N := 4) hx hb hts in1 hown hK (va_one at_47) 0 rfl rfl 2 (by decide) (hts (.fieldLink RX1 18 "RiverModel$Gauges" "seen" "[I") (List.mem_of_getElem? (i := 5) rfl)) (fun _ h9 => h9) rfl dX1_set_33 ?_
          refine lv_iload_n hx hb dX1_set_36 rfl (lv_at hl 2 rfl) ?_
          refine lv_bipush (v := 96) hx hb dX1_set_37 (by decide) ?_
          refine lv_pc (pc2 := 39) rfl ?_
          refine lv_imul hx hb dX1_set_39 ?_
          refine lv_topi (fun x_48 e_49 => ?_)
          have i_x_48 : x_48.toInt = a1.toInt * 96 := by rw [e_49]; exact (q_mul (by rw [show (96 : Int32).toInt = 96 by decide]; omega) (by rw [show (96 : Int32).toInt = 96 by decide]; omega)).trans (by rw [show (96 : Int32).toInt = 96 by decide])
          refine lv_iload hx hb dX1_set_40 (lv_at hl 0 rfl) ?_
          refine lv_iadd hx hb dX1_set_42 ?_
          refine lv_topi (fun x_50 e_51 => ?_)
          have i_x_50 : x_50.toInt = x_48.toInt + yk.toInt := by rw [e_51]; exact (q_add (by omega) (by omega)).trans (by rfl)
          refine lv_iconst (v := (-1)) hx hb dX1_set_43 (by decide) ?_
          obtain ⟨f_52, at_53⟩ := gF_o23 hG h_46
          have b_54 : vp_in x_50 384 := (q_in (by omega) (by omega))
          refine ty_iast (F2 := (gF cI cL cC gC gE G gW gA)) hx hb hK hG hS 0 at_53 (by rw [h_46]; rfl) rfl b_54 (by rw [h_46]; exact ⟨_, rfl⟩) tFF dX1_set_44 (fun H locs hG hS at_55 o_56 => ?_)
          have at_47 := va_at.keptK at_47 o_56 h_46 k_a0 rfl
          obtain ⟨x_57, e_58⟩ : ∃ y : Int32, y = yk + Int32.ofInt 1 := ⟨_, rfl⟩
          have i_x_57 : x_57.toInt = yk.toInt + 1 := by rw [e_58, show Int32.ofInt 1 = 1 by decide]; exact (q_add (by rw [show (1 : Int32).toInt = 1 by decide]; omega) (by rw [show (1 : Int32).toInt = 1 by decide]; omega)).trans (by rw [show (1 : Int32).toInt = 1 by decide])
          refine lv_iinc (v := x_57) (lv' := [(4, .int x_57), (0, .ref a0), (1, .int a1), (2, .int a2), (3, .int a3)]) hx hb dX1_set_45 hl (k := 0) rfl e_58.symm (by decide) rfl (fun ls hl => ?_)
          refine lv_goto (tgt := 25) hx hb dX1_set_48 (by decide) ?_
          exact (hWW _ _ _).mp (ih x_57 H locs ls (by omega) (by omega) (by omega) hG hS (lv_sub hl [0, 1, 2, 3, 4] rfl))
    have hz_yk : (0 : Int32).toInt = 0 := by decide
    exact loop (96 - 0 : Int).toNat 0 H locs ls (by omega) (by omega) (by omega) hG hS (lv_sub hl [0, 1, 2, 3, 4] rfl)

def uX1_isSet : List Cond := .code yX1_isSet cX1_isSet 2 (some .boolean) :: ([.fieldLink RX1 9 "RiverModel$Gauges" "whats" "[I"] ++ wsX10)
set_option maxHeartbeats 4000000 in
set_option maxRecDepth 100000 in
theorem s_X1_isSet (l : Launch) (D : va_G) (t : Nat → Nat) (cI cL cC : ClassId) (gC : Int32) (gE : Int32) (G : Nat) (gW : Nat → Int32) (gA : Nat → Int32) (a0 : Nat) (a1 : Int32) (k_a0 : t a0 = 6) : tM l yX1_isSet uX1_isSet 0 0 D (gF cI cL cC gC gE G gW gA) (gF cI cL cC gC gE G gW gA) t cI cL cC [.ref a0, .int a1] wr0 (pI (fun r => (r = 1 ∧ 0 ≤ a1.toInt ∧ a1.toInt ≤ 3) ∨ (r = 0 ∧ True))) := by
  refine tM.ofW (cc := cX1_isSet) (maxL := 2) (ret := (some .boolean)) (by decide) rfl (Nat.le_of_ble_eq_true rfl) ?_
  intro p e s m below meth c hx hb hr hml hown hts hlk H locs hG hK hE hS ls hl
  have hl : lv_has ls 2 [(0, .ref a0), (1, .int a1)] := hl
  have in1 : ∀ w ∈ wsX10, w ∈ uX1_isSet := fun w h => List.mem_cons_of_mem _ (List.mem_append_right _ h)
  refine lv_iload_n hx hb dX1_isSet_0 rfl (lv_at hl 1 rfl) ?_
  refine lv_if_lt (tgt := 24) hx hb dX1_isSet_1 (by decide) (fun c_1 => ?_) (fun c_1 => ?_)
  · skip
    have c_1 : a1.toInt < 0 := q_lt c_1
    refine lv_iconst (v := 0) hx hb dX1_isSet_24 (by decide) ?_
    exact ty_zret hx hb hr hlk rfl hG hS (Or.inr ⟨rfl, trivial⟩) dX1_isSet_25
  · skip
    have c_1 : 0 ≤ a1.toInt := q_nlt c_1
    refine lv_iload_n hx hb dX1_isSet_4 rfl (lv_at hl 1 rfl) ?_
    refine lv_iconst (v := 4) hx hb dX1_isSet_5 (by decide) ?_
    refine lv_icmp_ge (tgt := 24) hx hb dX1_isSet_6 (by decide) (fun c_2 => ?_) (fun c_2 => ?_)
    · skip
      have c_2 : 4 ≤ a1.toInt := q_le c_2
      refine lv_pc (pc2 := 24) rfl ?_
      refine lv_iconst (v := 0) hx hb dX1_isSet_24 (by decide) ?_
      exact ty_zret hx hb hr hlk rfl hG hS (Or.inr ⟨rfl, trivial⟩) dX1_isSet_25
    · skip
      have c_2 : a1.toInt < 4 := q_nle c_2
      refine lv_aload_n hx hb dX1_isSet_9 rfl (lv_at hl 0 rfl) ?_
      obtain ⟨r_3, r_5, r_7, at_9, h_4, h_6, h_8⟩ := gF_o6 hG k_a0
      refine va_get (D := D) (ci := 1) (v := .ref r_3) (C := RX1) (T := TX1) (N := 4) hx hb hts in1 hown hK (va_one at_9) 0 rfl rfl 0 (by decide) (hts (.fieldLink RX1 9 "RiverModel$Gauges" "whats" "[I") (List.mem_of_getElem? (i := 1) rfl)) (fun _ h9 => h9) rfl dX1_isSet_10 ?_
      refine lv_iload_n hx hb dX1_isSet_13 rfl (lv_at hl 1 rfl) ?_
      obtain ⟨f_10, at_11⟩ := gF_o21 hG h_4
      have b_12 : vp_in a1 4 := (q_in (by omega) (by omega))
      refine va_iald hx hb hK (va_one at_11) 0 0 rfl rfl b_12 dX1_isSet_14 ?_
      refine lv_topi (fun x_13 e_14 => ?_)
      refine lv_bipush (v := (-4)) hx hb dX1_isSet_15 (by decide) ?_
      refine lv_icmp_eq (tgt := 24) hx hb dX1_isSet_17 (by decide) (fun c_15 => ?_) (fun c_15 => ?_)
      · skip
        have c_15 : x_13.toInt = (-4) := q_eq c_15
        refine lv_pc (pc2 := 24) rfl ?_
        refine lv_iconst (v := 0) hx hb dX1_isSet_24 (by decide) ?_
        exact ty_zret hx hb hr hlk rfl hG hS (Or.inr ⟨rfl, trivial⟩) dX1_isSet_25
      · skip
        have c_15 : x_13.toInt ≠ (-4) := q_ne c_15
        refine lv_iconst (v := 1) hx hb dX1_isSet_20 (by decide) ?_
        refine lv_goto (tgt := 25) hx hb dX1_isSet_21 (by decide) ?_
        exact ty_zret hx hb hr hlk rfl hG hS (Or.inl ⟨rfl, by omega, by omega⟩) dX1_isSet_25

def uX1_reading : List Cond := .code yX1_reading cX1_reading 4 (some .long) :: ([.methodLink RX1 35 yX1_isSet, .instanceMethod yX1_isSet, .selects RX1 yX1_isSet yX1_isSet, .initialized RX1, .fieldLink RX1 15 "RiverModel$Gauges" "places" "[I", .fieldLink RX1 9 "RiverModel$Gauges" "whats" "[I", .initialized RX9, .static yX9_isNoStore, .fieldLink RX1 50 "RiverModel$Course" "held" "[J", .static yX9_isNoItem, .fieldLink RX1 41 "RiverModel$Course" "moved" "[J", .code yX1_isSet cX1_isSet 2 (some .boolean), .code yX9_isNoStore cX9_isNoStore 1 (some .boolean), .code yX9_isNoItem cX9_isNoItem 1 (some .boolean)] ++ wsX10 ++ wsX00)
set_option maxRecDepth 20000 in
theorem gu_X1_reading_X1_isSet_35 : GoodIn uX1_reading (wsV RX1 35 RX1 yX1_isSet uX1_isSet) := goodIn_r _ [1, 2, 3, 4, 12, 6, 15, 16, 17, 18] rfl (by decide +kernel)
set_option maxRecDepth 20000 in
theorem gu_X1_reading_X9_isNoStore_n : GoodIn uX1_reading (uX9_isNoStore) := goodIn_r _ [13] rfl (by decide +kernel)
set_option maxRecDepth 20000 in
theorem gu_X1_reading_X9_isNoItem_n : GoodIn uX1_reading (uX9_isNoItem) := goodIn_r _ [14] rfl (by decide +kernel)
set_option maxHeartbeats 4000000 in
set_option maxRecDepth 100000 in
theorem s_X1_reading (l : Launch) (D : va_G) (t : Nat → Nat) (cI cL cC : ClassId) (gC : Int32) (gE : Int32) (G : Nat) (gW : Nat → Int32) (gA : Nat → Int32) (a0 : Nat) (a1 : Nat) (a2 : Int32) (k_a0 : t a0 = 6) (k_a1 : t a1 = 5) : tM l yX1_reading uX1_reading 1 21 D (gF cI cL cC gC gE G gW gA) (gF cI cL cC gC gE G gW gA) t cI cL cC [.ref a0, .ref a1, .int a2] wr0 (pL (fun r => True)) := by
  refine tM.ofW (cc := cX1_reading) (maxL := 4) (ret := (some .long)) (by decide) rfl (Nat.le_of_ble_eq_true rfl) ?_
  intro p e s m below meth c hx hb hr hml hown hts hlk H locs hG hK hE hS ls hl
  have hl : lv_has ls 4 [(0, .ref a0), (1, .ref a1), (2, .int a2)] := hl
  have in1 : ∀ w ∈ wsX10, w ∈ uX1_reading := fun w h => List.mem_cons_of_mem _ (List.mem_append_left _ (List.mem_append_right _ h))
  have in0 : ∀ w ∈ wsX00, w ∈ uX1_reading := fun w h => List.mem_cons_of_mem _ (List.mem_append_right _ h)
  refine lv_aload_n hx hb dX1_reading_0 rfl (lv_at hl 0 rfl) ?_
  refine lv_iload_n hx hb dX1_reading_1 rfl (lv_at hl 2 rfl) ?_
  obtain ⟨r_1, r_3, r_5, at_7, h_2, h_4, h_6⟩ := gF_o6 hG k_a0
  refine ty_calli ((W.runV (As := [.int a2]) (rest := []) ⟨hx, hb, hml, hown, hts⟩ (s_X1_isSet l D t cI cL cC gC gE G gW gA a0 a2 k_a0) (cwV 1 hts gu_X1_reading_X1_isSet_35 rfl rfl rfl (by decide +kernel) ⟨Nat.le_of_ble_eq_true rfl, Nat.le_of_ble_eq_true rfl⟩) (tP_V hG hE at_7 rfl) rfl rfl hl.1 rfl (lv_room (Nat.le_of_ble_eq_true rfl)) dX1_reading_2 ⟨Nat.le_of_ble_eq_true rfl, Nat.le_of_ble_eq_true rfl⟩)) hS (fun _ h => h) (fun r_8 H locs hp_9 hG hS o_10 => ?_)
  have at_7 := va_at.keptC at_7 o_10 k_a0 rfl
  rcases hp_9 with ⟨rfl, hc_57, hc_58⟩ | ⟨rfl, _⟩
  · skip
    refine lv_if_ne (tgt := 10) hx hb dX1_reading_5 (by decide) (fun _ => ?_) (fun q => absurd q (by decide))
    refine lv_aload_n hx hb dX1_reading_10 rfl (lv_at hl 0 rfl) ?_
    refine va_get (D := D) (ci := 1) (v := .ref r_3) (C := RX1) (T := TX1) (N := 4) hx hb hts in1 hown hK (va_one at_7) 0 rfl rfl 1 (by decide) (hts (.fieldLink RX1 15 "RiverModel$Gauges" "places" "[I") (List.mem_of_getElem? (i := 5) rfl)) (fun _ h9 => h9) rfl dX1_reading_11 ?_
    refine lv_iload_n hx hb dX1_reading_14 rfl (lv_at hl 2 rfl) ?_
    refine lv_pc (pc2 := 15) rfl ?_
    obtain ⟨f_11, at_12⟩ := gF_o22 hG h_4
    have b_13 : vp_in a2 4 := (q_in (by omega) (by omega))
    refine va_iald hx hb hK (va_one at_12) 0 0 rfl rfl b_13 dX1_reading_15 ?_
    refine lv_topi (fun x_14 e_15 => ?_)
    refine lv_istore_n (lv' := [(3, .int x_14), (0, .ref a0), (1, .ref a1), (2, .int a2)]) hx hb dX1_reading_16 rfl hl (by decide) rfl (fun ls hl => ?_)
    refine lv_aload_n hx hb dX1_reading_17 rfl (lv_at hl 1 rfl) ?_
    refine va_get (D := D) (ci := 1) (v := .ref r_1) (C := RX1) (T := TX1) (N := 4) hx hb hts in1 hown hK (va_one at_7) 0 rfl rfl 0 (by decide) (hts (.fieldLink RX1 9 "RiverModel$Gauges" "whats" "[I") (List.mem_of_getElem? (i := 6) rfl)) (fun _ h9 => h9) rfl dX1_reading_18 ?_
    refine lv_iload_n hx hb dX1_reading_21 rfl (lv_at hl 3 rfl) ?_
    obtain ⟨f_16, at_17⟩ := gF_o21 hG h_2
    have b_18 : vp_in a2 4 := (q_in (by omega) (by omega))
    refine va_iald hx hb hK (va_one at_17) 0 0 rfl rfl b_18 dX1_reading_22 ?_
    refine lv_topi (fun x_19 e_20 => ?_)
    refine lv_if_ne (tgt := 44) hx hb dX1_reading_23 (by decide) (fun c_21 => ?_) (fun c_21 => ?_)
    · skip
      have c_21 : x_19.toInt ≠ 0 := q_ne c_21
      refine lv_iload_n hx hb dX1_reading_44 rfl (lv_at hl 0 rfl) ?_
      refine lv_pc (pc2 := 45) rfl ?_
      refine ty_calli (tRun (va_runSN (As := [.int x_14]) (rest := []) ⟨hx, hb, hml, hown, hts⟩ (s_X9_isNoStore l D t cI cL cC gC gE G gW gA x_14 ) ⟨(va_cnB 1 hts gu_X1_reading_X9_isNoStore_n rfl rfl rfl (hE.2.1 _ (List.mem_of_getElem? (i := 17) rfl)) (hts (.initialized RX9) (List.mem_of_getElem? (i := 7) rfl)) (by decide +kernel) ⟨Nat.le_of_ble_eq_true rfl, Nat.le_of_ble_eq_true rfl⟩), (hts (.static yX9_isNoStore) (List.mem_of_getElem? (i := 8) rfl)), trivial⟩ (tP_S hG hE) rfl rfl hl.1 rfl (lv_room (Nat.le_of_ble_eq_true rfl)) dX1_reading_45 ⟨Nat.le_of_ble_eq_true rfl, Nat.le_of_ble_eq_true rfl⟩)) hS (fun _ h => h) (fun r_22 H locs hp_23 hG hS o_24 => ?_)
      have at_7 := va_at.keptC at_7 o_24 k_a0 rfl
      have at_12 := va_at.keptC at_12 o_24 h_4 rfl
      have at_17 := va_at.keptC at_17 o_24 h_2 rfl
      rcases hp_23 with ⟨rfl, hc_59⟩ | ⟨rfl, hc_60, hc_61⟩
      · skip
        refine lv_if_eq (tgt := 55) hx hb dX1_reading_48 (by decide) (fun q => absurd q (by decide)) (fun _ => ?_)
        refine lv_lconst (v := 0) hx hb dX1_reading_51 (by decide) ?_
        refine lv_goto (tgt := 61) hx hb dX1_reading_52 (by decide) ?_
        exact ty_lret hx hb hr hlk hG hS True.intro dX1_reading_61
      · skip
        refine lv_if_eq (tgt := 55) hx hb dX1_reading_48 (by decide) (fun _ => ?_) (fun q => absurd (by decide) q)
        refine lv_aload_n hx hb dX1_reading_55 rfl (lv_at hl 2 rfl) ?_
        obtain ⟨r_25, r_27, r_29, r_31, v_33, v_34, v_35, v_36, at_38, h_26, h_28, h_30, h_32, h_37⟩ := gF_o5 hG k_a1
        refine va_get (D := D) (ci := 0) (v := .ref r_25) (C := RX0) (T := TX0) (N := 8) hx hb hts in0 hown hK (va_one at_38) 0 rfl rfl 0 (by decide) (hts (.fieldLink RX1 50 "RiverModel$Course" "held" "[J") (List.mem_of_getElem? (i := 9) rfl)) (fun _ h9 => h9) rfl dX1_reading_56 ?_
        refine lv_pc (pc2 := 59) rfl ?_
        refine lv_iload_n hx hb dX1_reading_59 rfl (lv_at hl 0 rfl) ?_
        obtain ⟨f_39, at_40⟩ := gF_o17 hG h_26
        have b_41 : vp_in x_14 16 := (q_in (by omega) (by omega))
        refine va_lald hx hb hK (va_one at_40) 0 1 rfl rfl b_41 dX1_reading_60 ?_
        refine lv_topl (fun z_42 e_43 => ?_)
        exact ty_lret hx hb hr hlk hG hS True.intro dX1_reading_61
    · skip
      have c_21 : x_19.toInt = 0 := q_eq c_21
      refine lv_iload_n hx hb dX1_reading_26 rfl (lv_at hl 0 rfl) ?_
      refine ty_calli (tRun (va_runSN (As := [.int x_14]) (rest := []) ⟨hx, hb, hml, hown, hts⟩ (s_X9_isNoItem l D t cI cL cC gC gE G gW gA x_14 ) ⟨(va_cnB 1 hts gu_X1_reading_X9_isNoItem_n rfl rfl rfl (hE.2.1 _ (List.mem_of_getElem? (i := 16) rfl)) (hts (.initialized RX9) (List.mem_of_getElem? (i := 7) rfl)) (by decide +kernel) ⟨Nat.le_of_ble_eq_true rfl, Nat.le_of_ble_eq_true rfl⟩), (hts (.static yX9_isNoItem) (List.mem_of_getElem? (i := 10) rfl)), trivial⟩ (tP_S hG hE) rfl rfl hl.1 rfl (lv_room (Nat.le_of_ble_eq_true rfl)) dX1_reading_27 ⟨Nat.le_of_ble_eq_true rfl, Nat.le_of_ble_eq_true rfl⟩)) hS (fun _ h => h) (fun r_44 H locs hp_45 hG hS o_46 => ?_)
      have at_7 := va_at.keptC at_7 o_46 k_a0 rfl
      have at_12 := va_at.keptC at_12 o_46 h_4 rfl
      have at_17 := va_at.keptC at_17 o_46 h_2 rfl
      rcases hp_45 with ⟨rfl, hc_62⟩ | ⟨rfl, hc_63, hc_64⟩
      · skip
        refine lv_if_eq (tgt := 37) hx hb dX1_reading_30 (by decide) (fun q => absurd q (by decide)) (fun _ => ?_)
        refine lv_lconst (v := 0) hx hb dX1_reading_33 (by decide) ?_
        refine lv_goto (tgt := 43) hx hb dX1_reading_34 (by decide) ?_
        refine lv_pc (pc2 := 43) rfl ?_
        exact ty_lret hx hb hr hlk hG hS True.intro dX1_reading_43
      · skip
        refine lv_if_eq (tgt := 37) hx hb dX1_reading_30 (by decide) (fun _ => ?_) (fun q => absurd (by decide) q)
        refine lv_aload_n hx hb dX1_reading_37 rfl (lv_at hl 2 rfl) ?_
        obtain ⟨r_47, r_49, r_51, r_53, v_55, v_56, v_57, v_58, at_60, h_48, h_50, h_52, h_54, h_59⟩ := gF_o5 hG k_a1
        refine va_get (D := D) (ci := 0) (v := .ref r_49) (C := RX0) (T := TX0) (N := 8) hx hb hts in0 hown hK (va_one at_60) 0 rfl rfl 1 (by decide) (hts (.fieldLink RX1 41 "RiverModel$Course" "moved" "[J") (List.mem_of_getElem? (i := 11) rfl)) (fun _ h9 => h9) rfl dX1_reading_38 ?_
        refine lv_iload_n hx hb dX1_reading_41 rfl (lv_at hl 0 rfl) ?_
        obtain ⟨f_61, at_62⟩ := gF_o18 hG h_50
        have b_63 : vp_in x_14 40 := (q_in (by omega) (by omega))
        refine va_lald hx hb hK (va_one at_62) 0 1 rfl rfl b_63 dX1_reading_42 ?_
        refine lv_topl (fun z_64 e_65 => ?_)
        exact ty_lret hx hb hr hlk hG hS True.intro dX1_reading_43
  · skip
    refine lv_if_ne (tgt := 10) hx hb dX1_reading_5 (by decide) (fun q => absurd rfl q) (fun _ => ?_)
    refine lv_pc (pc2 := 8) rfl ?_
    refine lv_lconst (v := 0) hx hb dX1_reading_8 (by decide) ?_
    exact ty_lret hx hb hr hlk hG hS True.intro dX1_reading_9

def uX1_putSeen : List Cond := .code yX1_putSeen cX1_putSeen 5 (some .int) :: ([.initialized RX9, .static yX9_isNoGauge, .static yX9_isOutside, .fieldLink RX1 18 "RiverModel$Gauges" "seen" "[I", .code yX9_isNoGauge cX9_isNoGauge 1 (some .boolean), .code yX9_isOutside cX9_isOutside 3 (some .boolean)] ++ wsX10)
set_option maxRecDepth 20000 in
theorem gu_X1_putSeen_X9_isNoGauge_n : GoodIn uX1_putSeen (uX9_isNoGauge) := goodIn_r _ [5] rfl (by decide +kernel)
set_option maxRecDepth 20000 in
theorem gu_X1_putSeen_X9_isOutside_n : GoodIn uX1_putSeen (uX9_isOutside) := goodIn_r _ [6] rfl (by decide +kernel)
set_option maxHeartbeats 4000000 in
set_option maxRecDepth 100000 in
theorem s_X1_putSeen (l : Launch) (D : va_G) (t : Nat → Nat) (cI cL cC : ClassId) (gC : Int32) (gE : Int32) (G : Nat) (gW : Nat → Int32) (gA : Nat → Int32) (a0 : Nat) (a1 : Int32) (a2 : Int32) (a3 : Int32) (k_a0 : t a0 = 6) : tM l yX1_putSeen uX1_putSeen 1 22 D (gF cI cL cC gC gE G gW gA) (gF cI cL cC gC gE G gW gA) t cI cL cC [.ref a0, .int a1, .int a2, .int a3] wrG (pI (fun r => True)) := by
  refine tM.ofW (cc := cX1_putSeen) (maxL := 5) (ret := (some .int)) (by decide) rfl (Nat.le_of_ble_eq_true rfl) ?_
  intro p e s m below meth c hx hb hr hml hown hts hlk H locs hG hK hE hS ls hl
  have hl : lv_has ls 5 [(0, .ref a0), (1, .int a1), (2, .int a2), (3, .int a3)] := hl
  have in1 : ∀ w ∈ wsX10, w ∈ uX1_putSeen := fun w h => List.mem_cons_of_mem _ (List.mem_append_right _ h)
  refine lv_iload_n hx hb dX1_putSeen_0 rfl (lv_at hl 1 rfl) ?_
  refine ty_calli (tRun (va_runSN (As := [.int a1]) (rest := []) ⟨hx, hb, hml, hown, hts⟩ (s_X9_isNoGauge l D t cI cL cC gC gE G gW gA a1 ) ⟨(va_cnB 1 hts gu_X1_putSeen_X9_isNoGauge_n rfl rfl rfl (hE.2.1 _ (List.mem_of_getElem? (i := 15) rfl)) (hts (.initialized RX9) (List.mem_of_getElem? (i := 1) rfl)) (by decide +kernel) ⟨Nat.le_of_ble_eq_true rfl, Nat.le_of_ble_eq_true rfl⟩), (hts (.static yX9_isNoGauge) (List.mem_of_getElem? (i := 2) rfl)), trivial⟩ (tP_S hG hE) rfl rfl hl.1 rfl (lv_room (Nat.le_of_ble_eq_true rfl)) dX1_putSeen_1 ⟨Nat.le_of_ble_eq_true rfl, Nat.le_of_ble_eq_true rfl⟩)) hS (fun k h => by simp [wr0] at h) (fun r_1 H locs hp_2 hG hS o_3 => ?_)
  rcases hp_2 with ⟨rfl, hc_65⟩ | ⟨rfl, hc_66, hc_67⟩
  · skip
    refine lv_if_ne (tgt := 17) hx hb dX1_putSeen_4 (by decide) (fun _ => ?_) (fun q => absurd q (by decide))
    refine lv_iconst (v := (-1)) hx hb dX1_putSeen_17 (by decide) ?_
    exact ty_iret hx hb hr hlk hG hS True.intro dX1_putSeen_18
  · skip
    refine lv_if_ne (tgt := 17) hx hb dX1_putSeen_4 (by decide) (fun q => absurd rfl q) (fun _ => ?_)
    refine lv_iload_n hx hb dX1_putSeen_7 rfl (lv_at hl 2 rfl) ?_
    refine lv_pc (pc2 := 8) rfl ?_
    refine lv_iconst (v := 0) hx hb dX1_putSeen_8 (by decide) ?_
    refine lv_bipush (v := 95) hx hb dX1_putSeen_9 (by decide) ?_
    refine ty_calli (tRun (va_runSN (As := [.int a2, .int 0, .int 95]) (rest := []) ⟨hx, hb, hml, hown, hts⟩ (s_X9_isOutside l D t cI cL cC gC gE G gW gA a2 0 95 0 95 (by decide) (by decide) ) ⟨(va_cnB 3 hts gu_X1_putSeen_X9_isOutside_n rfl rfl rfl (hE.2.1 _ (List.mem_of_getElem? (i := 18) rfl)) (hts (.initialized RX9) (List.mem_of_getElem? (i := 1) rfl)) (by decide +kernel) ⟨Nat.le_of_ble_eq_true rfl, Nat.le_of_ble_eq_true rfl⟩), (hts (.static yX9_isOutside) (List.mem_of_getElem? (i := 3) rfl)), trivial⟩ (tP_S hG hE) rfl rfl hl.1 rfl (lv_room (Nat.le_of_ble_eq_true rfl)) dX1_putSeen_11 ⟨Nat.le_of_ble_eq_true rfl, Nat.le_of_ble_eq_true rfl⟩)) hS (fun k h => by simp [wr0] at h) (fun r_4 H locs hp_5 hG hS o_6 => ?_)
    rcases hp_5 with ⟨rfl, hc_68⟩ | ⟨rfl, hc_69, hc_70⟩
    · skip
      refine lv_if_eq (tgt := 19) hx hb dX1_putSeen_14 (by decide) (fun q => absurd q (by decide)) (fun _ => ?_)
      refine lv_iconst (v := (-1)) hx hb dX1_putSeen_17 (by decide) ?_
      exact ty_iret hx hb hr hlk hG hS True.intro dX1_putSeen_18
    · skip
      refine lv_if_eq (tgt := 19) hx hb dX1_putSeen_14 (by decide) (fun _ => ?_) (fun q => absurd (by decide) q)
      refine lv_aload_n hx hb dX1_putSeen_19 rfl (lv_at hl 0 rfl) ?_
      refine lv_pc (pc2 := 20) rfl ?_
      obtain ⟨r_7, r_9, r_11, at_13, h_8, h_10, h_12⟩ := gF_o6 hG k_a0
      refine va_get (D := D) (ci := 1) (v := .ref r_11) (C := RX1) (T := TX1) (N := 4) hx hb hts in1 hown hK (va_one at_13) 0 rfl rfl 2 (by decide) (hts (.fieldLink RX1 18 "RiverModel$Gauges" "seen" "[I") (List.mem_of_getElem? (i := 4) rfl)) (fun _ h9 => h9) rfl dX1_putSeen_20 ?_
      refine lv_iload_n hx hb dX1_putSeen_23 rfl (lv_at hl 1 rfl) ?_
      refine lv_bipush (v := 96) hx hb dX1_putSeen_24 (by decide) ?_
      refine lv_imul hx hb dX1_putSeen_26 ?_
      refine lv_topi (fun x_14 e_15 => ?_)
      have i_x_14 : x_14.toInt = a1.toInt * 96 := by rw [e_15]; exact (q_mul (by rw [show (96 : Int32).toInt = 96 by decide]; omega) (by rw [show (96 : Int32).toInt = 96 by decide]; omega)).trans (by rw [show (96 : Int32).toInt = 96 by decide])
      refine lv_iload_n hx hb dX1_putSeen_27 rfl (lv_at hl 2 rfl) ?_
      refine lv_iadd hx hb dX1_putSeen_28 ?_
      refine lv_topi (fun x_16 e_17 => ?_)
      have i_x_16 : x_16.toInt = x_14.toInt + a2.toInt := by rw [e_17]; exact (q_add (by omega) (by omega)).trans (by rfl)
      obtain ⟨f_18, at_19⟩ := gF_o23 hG h_12
      have b_20 : vp_in x_16 384 := (q_in (by omega) (by omega))
      refine va_iald hx hb hK (va_one at_19) 0 0 rfl rfl b_20 dX1_putSeen_29 ?_
      refine lv_topi (fun x_21 e_22 => ?_)
      refine lv_istore (lv' := [(4, .int x_21), (0, .ref a0), (1, .int a1), (2, .int a2), (3, .int a3)]) hx hb dX1_putSeen_30 hl (by decide) rfl (fun ls hl => ?_)
      refine lv_pc (pc2 := 32) rfl ?_
      refine lv_aload_n hx hb dX1_putSeen_32 rfl (lv_at hl 1 rfl) ?_
      refine va_get (D := D) (ci := 1) (v := .ref r_11) (C := RX1) (T := TX1) (N := 4) hx hb hts in1 hown hK (va_one at_13) 0 rfl rfl 2 (by decide) (hts (.fieldLink RX1 18 "RiverModel$Gauges" "seen" "[I") (List.mem_of_getElem? (i := 4) rfl)) (fun _ h9 => h9) rfl dX1_putSeen_33 ?_
      refine lv_iload_n hx hb dX1_putSeen_36 rfl (lv_at hl 2 rfl) ?_
      refine lv_bipush (v := 96) hx hb dX1_putSeen_37 (by decide) ?_
      refine lv_imul hx hb dX1_putSeen_39 ?_
      refine lv_topi (fun x_23 e_24 => ?_)
      have i_x_23 : x_23.toInt = a1.toInt * 96 := by rw [e_24]; exact (q_mul (by rw [show (96 : Int32).toInt = 96 by decide]; omega) (by rw [show (96 : Int32).toInt = 96 by decide]; omega)).trans (by rw [show (96 : Int32).toInt = 96 by decide])
      refine lv_iload_n hx hb dX1_putSeen_40 rfl (lv_at hl 3 rfl) ?_
      refine lv_iadd hx hb dX1_putSeen_41 ?_
      refine lv_topi (fun x_25 e_26 => ?_)
      have i_x_25 : x_25.toInt = x_23.toInt + a2.toInt := by rw [e_26]; exact (q_add (by omega) (by omega)).trans (by rfl)
      refine lv_iload_n hx hb dX1_putSeen_42 rfl (lv_at hl 4 rfl) ?_
      refine lv_pc (pc2 := 43) rfl ?_
      have b_27 : vp_in x_25 384 := (q_in (by omega) (by omega))
      refine ty_iast (F2 := (gF cI cL cC gC gE G gW gA)) hx hb hK hG hS 0 at_19 (by rw [h_12]; rfl) rfl b_27 (by rw [h_12]; exact ⟨_, rfl⟩) tFF dX1_putSeen_43 (fun H locs hG hS at_28 o_29 => ?_)
      have at_13 := va_at.keptK at_13 o_29 h_12 k_a0 rfl
      refine lv_iload hx hb dX1_putSeen_44 (lv_at hl 0 rfl) ?_
      exact ty_iret hx hb hr hlk hG hS True.intro dX1_putSeen_46

def uX1_agree : List Cond := .code yX1_agree cX1_agree 5 (some .boolean) :: ([.fieldLink RX1 18 "RiverModel$Gauges" "seen" "[I", .methodLink RX1 57 yX1_reading, .instanceMethod yX1_reading, .selects RX1 yX1_reading yX1_reading, .initialized RX1, .methodLink RX1 61 Lib.MathLoose.abs_long.x, .static Lib.MathLoose.abs_long.x, .initialized "java/lang/Math", .code Lib.MathLoose.abs_long.x Lib.MathLoose.abs_long.code 2 (some .long), .fieldLink RX1 21 "RiverModel$Gauges" "mayBeOff" "I", .code yX1_reading cX1_reading 4 (some .long), .methodLink RX1 35 yX1_isSet, .instanceMethod yX1_isSet, .selects RX1 yX1_isSet yX1_isSet, .fieldLink RX1 15 "RiverModel$Gauges" "places" "[I", .fieldLink RX1 9 "RiverModel$Gauges" "whats" "[I", .initialized RX9, .static yX9_isNoStore, .fieldLink RX1 50 "RiverModel$Course" "held" "[J", .static yX9_isNoItem, .fieldLink RX1 41 "RiverModel$Course" "moved" "[J", .code yX1_isSet cX1_isSet 2 (some .boolean), .code yX9_isNoStore cX9_isNoStore 1 (some .boolean), .code yX9_isNoItem cX9_isNoItem 1 (some .boolean)] ++ wsX10 ++ wsX00)
set_option maxRecDepth 20000 in
theorem gu_X1_agree_X1_reading_57 : GoodIn uX1_agree (wsV RX1 57 RX1 yX1_reading uX1_reading) := goodIn_r _ [2, 3, 4, 5, 11, 12, 13, 14, 5, 15, 16, 17, 18, 19, 20, 21, 22, 23, 24, 25, 26, 27, 28, 29, 30, 31, 32, 33, 34, 35, 36] rfl (by decide +kernel)
set_option maxHeartbeats 4000000 in
set_option maxRecDepth 100000 in
theorem s_X1_agree (l : Launch) (D : va_G) (t : Nat → Nat) (cI cL cC : ClassId) (gC : Int32) (gE : Int32) (G : Nat) (gW : Nat → Int32) (gA : Nat → Int32) (a0 : Nat) (a1 : Nat) (a2 : Int32) (h0h : 0 ≤ a2.toInt) (k_a0 : t a0 = 6) (k_a1 : t a1 = 5) : tM l yX1_agree uX1_agree 2 44 D (gF cI cL cC gC gE G gW gA) (gF cI cL cC gC gE G gW gA) t cI cL cC [.ref a0, .ref a1, .int a2] wr0 (pI (fun r => r = 0 ∨ r = 1)) := by
  refine tM.ofW (cc := cX1_agree) (maxL := 5) (ret := (some .boolean)) (by decide) rfl (Nat.le_of_ble_eq_true rfl) ?_
  intro p e s m below meth c hx hb hr hml hown hts hlk H locs hG hK hE hS ls hl
  have hl : lv_has ls 5 [(0, .ref a0), (1, .ref a1), (2, .int a2)] := hl
  have in1 : ∀ w ∈ wsX10, w ∈ uX1_agree := fun w h => List.mem_cons_of_mem _ (List.mem_append_left _ (List.mem_append_right _ h))
  refine lv_iconst (v := 0) hx hb dX1_agree_0 (by decide) ?_
  refine lv_istore_n (lv' := [(3, .int 0), (0, .ref a0), (1, .ref a1), (2, .int a2)]) hx hb dX1_agree_1 rfl hl (by decide) rfl (fun ls hl => ?_)
  refine lv_pc (pc2 := 2) rfl ?_
  refine lp_gen (fun WW hWW => ?_)
  have kx : ∀ (yk : Int32) (H1 : Heap) (locs1 : List Loc) (ls1 : Array Slot), 0 ≤ yk.toInt → yk.toInt ≤ 4 → tG D (gF cI cL cC gC gE G gW gA) t H1 → tF t wr0 s.heap H1 locs1 → lv_has ls1 5 [(3, .int yk), (0, .ref a0), (1, .ref a1), (2, .int a2)] → WW H1 locs1 (F0 m 62 ls1 []) := by
    intro yk H locs ls v0 v1 hG hS hl
    refine (hWW _ _ _).mpr ?_
    refine lv_iconst (v := 1) hx hb dX1_agree_62 (by decide) ?_
    exact ty_zret hx hb hr hlk rfl hG hS (by decide) dX1_agree_63
  have loop : ∀ (k : Nat) (yk : Int32) (H1 : Heap) (locs1 : List Loc) (ls1 : Array Slot), 4 - yk.toInt ≤ (k : Int) → 0 ≤ yk.toInt → yk.toInt ≤ 4 → tG D (gF cI cL cC gC gE G gW gA) t H1 → tF t wr0 s.heap H1 locs1 → lv_has ls1 5 [(3, .int yk), (0, .ref a0), (1, .ref a1), (2, .int a2)] → WW H1 locs1 (F0 m 2 ls1 []) := by
    intro k
    induction k with
    | zero =>
      intro yk H locs ls hk v0 v1 hG hS hl
      refine (hWW _ _ _).mpr ?_
      refine lv_iload_n hx hb dX1_agree_2 rfl (lv_at hl 0 rfl) ?_
      refine lv_iconst (v := 4) hx hb dX1_agree_3 (by decide) ?_
      refine lv_icmp_ge (tgt := 62) hx hb dX1_agree_4 (by decide) (fun c_1 => ?_) (fun c_1 => ?_)
      · skip
        have c_1 : 4 ≤ yk.toInt := q_le c_1
        exact (hWW _ _ _).mp (kx yk H locs ls (by omega) (by omega) hG hS (lv_sub hl [0, 1, 2, 3] rfl))
      · skip
        have c_1 : yk.toInt < 4 := q_nle c_1
        refine lv_pc (pc2 := 7) rfl ?_
        refine lv_iload_n hx hb dX1_agree_7 rfl (lv_at hl 3 rfl) ?_
        refine lv_bipush (v := 96) hx hb dX1_agree_8 (by decide) ?_
        refine lv_icmp_ge (tgt := 62) hx hb dX1_agree_10 (by decide) (fun c_2 => ?_) (fun c_2 => ?_)
        · skip
          have c_2 : 96 ≤ a2.toInt := q_le c_2
          exact (hWW _ _ _).mp (kx yk H locs ls (by omega) (by omega) hG hS (lv_sub hl [0, 1, 2, 3] rfl))
        · skip
          have c_2 : a2.toInt < 96 := q_nle c_2
          refine lv_aload_n hx hb dX1_agree_13 rfl (lv_at hl 1 rfl) ?_
          obtain ⟨r_3, r_5, r_7, at_9, h_4, h_6, h_8⟩ := gF_o6 hG k_a0
          refine va_get (D := D) (ci := 1) (v := .ref r_7) (C := RX1) (T := TX1) (N := 4) hx hb hts in1 hown hK (va_one at_9) 0 rfl rfl 2 (by decide) (hts (.fieldLink RX1 18 "RiverModel$Gauges" "seen" "[I") (List.mem_of_getElem? (i := 1) rfl)) (fun _ h9 => h9) rfl dX1_agree_14 ?_
          refine lv_iload_n hx hb dX1_agree_17 rfl (lv_at hl 0 rfl) ?_
          refine lv_bipush (v := 96) hx hb dX1_agree_18 (by decide) ?_
          refine lv_imul hx hb dX1_agree_20 ?_
          refine lv_topi (fun x_10 e_11 => ?_)
          have i_x_10 : x_10.toInt = yk.toInt * 96 := by rw [e_11]; exact (q_mul (by rw [show (96 : Int32).toInt = 96 by decide]; omega) (by rw [show (96 : Int32).toInt = 96 by decide]; omega)).trans (by rw [show (96 : Int32).toInt = 96 by decide])
          refine lv_pc (pc2 := 21) rfl ?_
          refine lv_iload_n hx hb dX1_agree_21 rfl (lv_at hl 3 rfl) ?_
          refine lv_iadd hx hb dX1_agree_22 ?_
          refine lv_topi (fun x_12 e_13 => ?_)
          have i_x_12 : x_12.toInt = x_10.toInt + a2.toInt := by rw [e_13]; exact (q_add (by omega) (by omega)).trans (by rfl)
          obtain ⟨f_14, at_15⟩ := gF_o23 hG h_8
          have b_16 : vp_in x_12 384 := (q_in (by omega) (by omega))
          refine va_iald hx hb hK (va_one at_15) 0 0 rfl rfl b_16 dX1_agree_23 ?_
          refine lv_topi (fun x_17 e_18 => ?_)
          refine lv_istore (lv' := [(4, .int x_17), (3, .int yk), (0, .ref a0), (1, .ref a1), (2, .int a2)]) hx hb dX1_agree_24 hl (by decide) rfl (fun ls hl => ?_)
          refine lv_iload hx hb dX1_agree_26 (lv_at hl 0 rfl) ?_
          refine lv_iconst (v := (-1)) hx hb dX1_agree_28 (by decide) ?_
          refine lv_icmp_eq (tgt := 56) hx hb dX1_agree_29 (by decide) (fun c_19 => ?_) (fun c_19 => ?_)
          · skip
            have c_19 : x_17.toInt = (-1) := q_eq c_19
            obtain ⟨x_20, e_21⟩ : ∃ y : Int32, y = yk + Int32.ofInt 1 := ⟨_, rfl⟩
            have i_x_20 : x_20.toInt = yk.toInt + 1 := by rw [e_21, show Int32.ofInt 1 = 1 by decide]; exact (q_add (by rw [show (1 : Int32).toInt = 1 by decide]; omega) (by rw [show (1 : Int32).toInt = 1 by decide]; omega)).trans (by rw [show (1 : Int32).toInt = 1 by decide])
            refine lv_iinc (v := x_20) (lv' := [(3, .int x_20), (4, .int x_17), (0, .ref a0), (1, .ref a1), (2, .int a2)]) hx hb dX1_agree_56 hl (k := 1) rfl e_21.symm (by decide) rfl (fun ls hl => ?_)
            refine lv_pc (pc2 := 59) rfl ?_
            refine lv_goto (tgt := 2) hx hb dX1_agree_59 (by decide) ?_
            exfalso; omega
          · skip
            have c_19 : x_17.toInt ≠ (-1) := q_ne c_19
            refine lv_aload_n hx hb dX1_agree_32 rfl (lv_at hl 2 rfl) ?_
            refine lv_aload_n hx hb dX1_agree_33 rfl (lv_at hl 3 rfl) ?_
            refine lv_iload_n hx hb dX1_agree_34 rfl (lv_at hl 1 rfl) ?_
            refine ty_calll ((W.runV (As := [.ref a1, .int yk]) (rest := []) ⟨hx, hb, hml, hown, hts⟩ (s_X1_reading l D t cI cL cC gC gE G gW gA a0 a1 yk k_a0 k_a1) (cwV 2 hts gu_X1_agree_X1_reading_57 rfl rfl rfl (by decide +kernel) ⟨Nat.le_of_ble_eq_true rfl, Nat.le_of_ble_eq_true rfl⟩) (tP_V hG hE at_9 rfl) rfl rfl hl.1 rfl (lv_room (Nat.le_of_ble_eq_true rfl)) dX1_agree_35 ⟨Nat.le_of_ble_eq_true rfl, Nat.le_of_ble_eq_true rfl⟩)) hS (fun _ h => h) (fun z_22 H locs hp_23 hG hS o_24 => ?_)
            have at_9 := va_at.keptC at_9 o_24 k_a0 rfl
            have at_15 := va_at.keptC at_15 o_24 h_8 rfl
            refine lv_iload hx hb dX1_agree_38 (lv_at hl 0 rfl) ?_
            refine lv_i2l (v := x_17.toInt64) hx hb dX1_agree_40 rfl ?_
            refine lv_lsub hx hb dX1_agree_41 ?_
            refine lv_topl (fun z_25 e_26 => ?_)
            refine lv_pc (pc2 := 42) rfl ?_
            refine va_mabs_long hx hb (by rw [hml]; exact hl.1.symm) hown (hts (.methodLink RX1 61 Lib.MathLoose.abs_long.x) (List.mem_of_getElem? (i := 6) rfl)) (hts (.static Lib.MathLoose.abs_long.x) (List.mem_of_getElem? (i := 7) rfl)) (hts (.initialized "java/lang/Math") (List.mem_of_getElem? (i := 8) rfl)) (hts (.code Lib.MathLoose.abs_long.x Lib.MathLoose.abs_long.code 2 (some .long)) (List.mem_of_getElem? (i := 9) rfl)) (Nat.le_of_ble_eq_true rfl) (Nat.le_of_ble_eq_true rfl) (Nat.zero_le _) (Nat.zero_le _) dX1_agree_42 ?_
            refine lv_topl (fun z_27 e_28 => ?_)
            refine lv_aload_n hx hb dX1_agree_45 rfl (lv_at hl 2 rfl) ?_
            refine va_get (D := D) (ci := 1) (v := .int gE) (C := RX1) (T := TX1) (N := 4) hx hb hts in1 hown hK (va_one at_9) 0 rfl rfl 3 (by decide) (hts (.fieldLink RX1 21 "RiverModel$Gauges" "mayBeOff" "I") (List.mem_of_getElem? (i := 10) rfl)) (fun _ h9 => h9) rfl dX1_agree_46 ?_
            refine lv_i2l (v := gE.toInt64) hx hb dX1_agree_49 rfl ?_
            refine W.lcmp hx hb dX1_agree_50 ?_
            refine lv_if_le (tgt := 56) hx hb dX1_agree_51 (by decide) (fun c_29 => ?_) (fun c_29 => ?_)
            · skip
              have c_29 : z_27.toInt ≤ gE.toInt := by rw [← q_i2l gE]; exact q_cmp_le c_29
              obtain ⟨x_30, e_31⟩ : ∃ y : Int32, y = yk + Int32.ofInt 1 := ⟨_, rfl⟩
              have i_x_30 : x_30.toInt = yk.toInt + 1 := by rw [e_31, show Int32.ofInt 1 = 1 by decide]; exact (q_add (by rw [show (1 : Int32).toInt = 1 by decide]; omega) (by rw [show (1 : Int32).toInt = 1 by decide]; omega)).trans (by rw [show (1 : Int32).toInt = 1 by decide])
              refine lv_iinc (v := x_30) (lv' := [(3, .int x_30), (4, .int x_17), (0, .ref a0), (1, .ref a1), (2, .int a2)]) hx hb dX1_agree_56 hl (k := 1) rfl e_31.symm (by decide) rfl (fun ls hl => ?_)
              refine lv_goto (tgt := 2) hx hb dX1_agree_59 (by decide) ?_
              exfalso; omega
            · skip
              have c_29 : gE.toInt < z_27.toInt := by rw [← q_i2l gE]; exact q_cmp_nle c_29
              refine lv_pc (pc2 := 54) rfl ?_
              refine lv_iconst (v := 0) hx hb dX1_agree_54 (by decide) ?_
              exact ty_zret hx hb hr hlk rfl hG hS (by decide) dX1_agree_55
    | succ k ih =>
      intro yk H locs ls hk v0 v1 hG hS hl
      refine (hWW _ _ _).mpr ?_
      refine lv_iload_n hx hb dX1_agree_2 rfl (lv_at hl 0 rfl) ?_
      refine lv_iconst (v := 4) hx hb dX1_agree_3 (by decide) ?_
      refine lv_icmp_ge (tgt := 62) hx hb dX1_agree_4 (by decide) (fun c_32 => ?_) (fun c_32 => ?_)
      · skip
        have c_32 : 4 ≤ yk.toInt := q_le c_32
        exact (hWW _ _ _).mp (kx yk H locs ls (by omega) (by omega) hG hS (lv_sub hl [0, 1, 2, 3] rfl))
      · skip
        have c_32 : yk.toInt < 4 := q_nle c_32
        refine lv_iload_n hx hb dX1_agree_7 rfl (lv_at hl 3 rfl) ?_
        refine lv_bipush (v := 96) hx hb dX1_agree_8 (by decide) ?_
        refine lv_icmp_ge (tgt := 62) hx hb dX1_agree_10 (by decide) (fun c_33 => ?_) (fun c_33 => ?_)
        · skip
          have c_33 : 96 ≤ a2.toInt := q_le c_33
          exact (hWW _ _ _).mp (kx yk H locs ls (by omega) (by omega) hG hS (lv_sub hl [0, 1, 2, 3] rfl))
        · skip
          have c_33 : a2.toInt < 96 := q_nle c_33
          refine lv_pc (pc2 := 13) rfl ?_
          refine lv_aload_n hx hb dX1_agree_13 rfl (lv_at hl 1 rfl) ?_
          obtain ⟨r_34, r_36, r_38, at_40, h_35, h_37, h_39⟩ := gF_o6 hG k_a0
          refine va_get (D := D) (ci := 1) (v := .ref r_38) (C := RX1) (T := TX1) (N := 4) hx hb hts in1 hown hK (va_one at_40) 0 rfl rfl 2 (by decide) (hts (.fieldLink RX1 18 "RiverModel$Gauges" "seen" "[I") (List.mem_of_getElem? (i := 1) rfl)) (fun _ h9 => h9) rfl dX1_agree_14 ?_
          refine lv_iload_n hx hb dX1_agree_17 rfl (lv_at hl 0 rfl) ?_
          refine lv_bipush (v := 96) hx hb dX1_agree_18 (by decide) ?_
          refine lv_imul hx hb dX1_agree_20 ?_
          refine lv_topi (fun x_41 e_42 => ?_)
          have i_x_41 : x_41.toInt = yk.toInt * 96 := by rw [e_42]; exact (q_mul (by rw [show (96 : Int32).toInt = 96 by decide]; omega) (by rw [show (96 : Int32).toInt = 96 by decide]; omega)).trans (by rw [show (96 : Int32).toInt = 96 by decide])
          refine lv_iload_n hx hb dX1_agree_21 rfl (lv_at hl 3 rfl) ?_
          refine lv_iadd hx hb dX1_agree_22 ?_
          refine lv_topi (fun x_43 e_44 => ?_)
          have i_x_43 : x_43.toInt = x_41.toInt + a2.toInt := by rw [e_44]; exact (q_add (by omega) (by omega)).trans (by rfl)
          obtain ⟨f_45, at_46⟩ := gF_o23 hG h_39
          have b_47 : vp_in x_43 384 := (q_in (by omega) (by omega))
          refine va_iald hx hb hK (va_one at_46) 0 0 rfl rfl b_47 dX1_agree_23 ?_
          refine lv_topi (fun x_48 e_49 => ?_)
          refine lv_pc (pc2 := 24) rfl ?_
          refine lv_istore (lv' := [(4, .int x_48), (3, .int yk), (0, .ref a0), (1, .ref a1), (2, .int a2)]) hx hb dX1_agree_24 hl (by decide) rfl (fun ls hl => ?_)
          refine lv_iload hx hb dX1_agree_26 (lv_at hl 0 rfl) ?_
          refine lv_iconst (v := (-1)) hx hb dX1_agree_28 (by decide) ?_
          refine lv_icmp_eq (tgt := 56) hx hb dX1_agree_29 (by decide) (fun c_50 => ?_) (fun c_50 => ?_)
          · skip
            have c_50 : x_48.toInt = (-1) := q_eq c_50
            obtain ⟨x_51, e_52⟩ : ∃ y : Int32, y = yk + Int32.ofInt 1 := ⟨_, rfl⟩
            have i_x_51 : x_51.toInt = yk.toInt + 1 := by rw [e_52, show Int32.ofInt 1 = 1 by decide]; exact (q_add (by rw [show (1 : Int32).toInt = 1 by decide]; omega) (by rw [show (1 : Int32).toInt = 1 by decide]; omega)).trans (by rw [show (1 : Int32).toInt = 1 by decide])
            refine lv_iinc (v := x_51) (lv' := [(3, .int x_51), (4, .int x_48), (0, .ref a0), (1, .ref a1), (2, .int a2)]) hx hb dX1_agree_56 hl (k := 1) rfl e_52.symm (by decide) rfl (fun ls hl => ?_)
            refine lv_goto (tgt := 2) hx hb dX1_agree_59 (by decide) ?_
            exact (hWW _ _ _).mp (ih x_51 H locs ls (by omega) (by omega) (by omega) hG hS (lv_sub hl [0, 2, 3, 4] rfl))
          · skip
            have c_50 : x_48.toInt ≠ (-1) := q_ne c_50
            refine lv_aload_n hx hb dX1_agree_32 rfl (lv_at hl 2 rfl) ?_
            refine lv_aload_n hx hb dX1_agree_33 rfl (lv_at hl 3 rfl) ?_
            refine lv_pc (pc2 := 34) rfl ?_
            refine lv_iload_n hx hb dX1_agree_34 rfl (lv_at hl 1 rfl) ?_
            refine ty_calll ((W.runV (As := [.ref a1, .int yk]) (rest := []) ⟨hx, hb, hml, hown, hts⟩ (s_X1_reading l D t cI cL cC gC gE G gW gA a0 a1 yk k_a0 k_a1) (cwV 2 hts gu_X1_agree_X1_reading_57 rfl rfl rfl (by decide +kernel) ⟨Nat.le_of_ble_eq_true rfl, Nat.le_of_ble_eq_true rfl⟩) (tP_V hG hE at_40 rfl) rfl rfl hl.1 rfl (lv_room (Nat.le_of_ble_eq_true rfl)) dX1_agree_35 ⟨Nat.le_of_ble_eq_true rfl, Nat.le_of_ble_eq_true rfl⟩)) hS (fun _ h => h) (fun z_53 H locs hp_54 hG hS o_55 => ?_)
            have at_40 := va_at.keptC at_40 o_55 k_a0 rfl
            have at_46 := va_at.keptC at_46 o_55 h_39 rfl
            refine lv_iload hx hb dX1_agree_38 (lv_at hl 0 rfl) ?_
            refine lv_i2l (v := x_48.toInt64) hx hb dX1_agree_40 rfl ?_
            refine lv_lsub hx hb dX1_agree_41 ?_
            refine lv_topl (fun z_56 e_57 => ?_)
            refine va_mabs_long hx hb (by rw [hml]; exact hl.1.symm) hown (hts (.methodLink RX1 61 Lib.MathLoose.abs_long.x) (List.mem_of_getElem? (i := 6) rfl)) (hts (.static Lib.MathLoose.abs_long.x) (List.mem_of_getElem? (i := 7) rfl)) (hts (.initialized "java/lang/Math") (List.mem_of_getElem? (i := 8) rfl)) (hts (.code Lib.MathLoose.abs_long.x Lib.MathLoose.abs_long.code 2 (some .long)) (List.mem_of_getElem? (i := 9) rfl)) (Nat.le_of_ble_eq_true rfl) (Nat.le_of_ble_eq_true rfl) (Nat.zero_le _) (Nat.zero_le _) dX1_agree_42 ?_
            refine lv_topl (fun z_58 e_59 => ?_)
            refine lv_aload_n hx hb dX1_agree_45 rfl (lv_at hl 2 rfl) ?_
            refine va_get (D := D) (ci := 1) (v := .int gE) (C := RX1) (T := TX1) (N := 4) hx hb hts in1 hown hK (va_one at_40) 0 rfl rfl 3 (by decide) (hts (.fieldLink RX1 21 "RiverModel$Gauges" "mayBeOff" "I") (List.mem_of_getElem? (i := 10) rfl)) (fun _ h9 => h9) rfl dX1_agree_46 ?_
            refine lv_pc (pc2 := 49) rfl ?_
            refine lv_i2l (v := gE.toInt64) hx hb dX1_agree_49 rfl ?_
            refine W.lcmp hx hb dX1_agree_50 ?_
            refine lv_if_le (tgt := 56) hx hb dX1_agree_51 (by decide) (fun c_60 => ?_) (fun c_60 => ?_)
            · skip
              have c_60 : z_58.toInt ≤ gE.toInt := by rw [← q_i2l gE]; exact q_cmp_le c_60
              obtain ⟨x_61, e_62⟩ : ∃ y : Int32, y = yk + Int32.ofInt 1 := ⟨_, rfl⟩
              have i_x_61 : x_61.toInt = yk.toInt + 1 := by rw [e_62, show Int32.ofInt 1 = 1 by decide]; exact (q_add (by rw [show (1 : Int32).toInt = 1 by decide]; omega) (by rw [show (1 : Int32).toInt = 1 by decide]; omega)).trans (by rw [show (1 : Int32).toInt = 1 by decide])
              refine lv_iinc (v := x_61) (lv' := [(3, .int x_61), (4, .int x_48), (0, .ref a0), (1, .ref a1), (2, .int a2)]) hx hb dX1_agree_56 hl (k := 1) rfl e_62.symm (by decide) rfl (fun ls hl => ?_)
              refine lv_goto (tgt := 2) hx hb dX1_agree_59 (by decide) ?_
              exact (hWW _ _ _).mp (ih x_61 H locs ls (by omega) (by omega) (by omega) hG hS (lv_sub hl [0, 2, 3, 4] rfl))
            · skip
              have c_60 : gE.toInt < z_58.toInt := by rw [← q_i2l gE]; exact q_cmp_nle c_60
              refine lv_iconst (v := 0) hx hb dX1_agree_54 (by decide) ?_
              exact ty_zret hx hb hr hlk rfl hG hS (by decide) dX1_agree_55
  have hz_yk : (0 : Int32).toInt = 0 := by decide
  exact loop (4 - 0 : Int).toNat 0 H locs ls (by omega) (by omega) (by omega) hG hS (lv_sub hl [0, 1, 2, 3] rfl)

def uX1_lastSeen : List Cond := .code yX1_lastSeen cX1_lastSeen 3 (some .int) :: ([.fieldLink RX1 18 "RiverModel$Gauges" "seen" "[I", .methodLink RX1 67 Lib.Math.max.name, .static Lib.Math.max.name, .initialized "java/lang/Math", .code Lib.Math.max.name Lib.Math.max.code 2 (some .int)] ++ wsX10)
set_option maxHeartbeats 4000000 in
set_option maxRecDepth 100000 in
theorem s_X1_lastSeen (l : Launch) (D : va_G) (t : Nat → Nat) (cI cL cC : ClassId) (gC : Int32) (gE : Int32) (G : Nat) (gW : Nat → Int32) (gA : Nat → Int32) (a0 : Nat) (k_a0 : t a0 = 6) : tM l yX1_lastSeen uX1_lastSeen 1 13 D (gF cI cL cC gC gE G gW gA) (gF cI cL cC gC gE G gW gA) t cI cL cC [.ref a0] wr0 (pI (fun r => -1 ≤ r.toInt ∧ r.toInt ≤ 95)) := by
  refine tM.ofW (cc := cX1_lastSeen) (maxL := 3) (ret := (some .int)) (by decide) rfl (Nat.le_of_ble_eq_true rfl) ?_
  intro p e s m below meth c hx hb hr hml hown hts hlk H locs hG hK hE hS ls hl
  have hl : lv_has ls 3 [(0, .ref a0)] := hl
  have in1 : ∀ w ∈ wsX10, w ∈ uX1_lastSeen := fun w h => List.mem_cons_of_mem _ (List.mem_append_right _ h)
  refine lv_iconst (v := (-1)) hx hb dX1_lastSeen_0 (by decide) ?_
  refine lv_istore_n (lv' := [(1, .int (-1)), (0, .ref a0)]) hx hb dX1_lastSeen_1 rfl hl (by decide) rfl (fun ls hl => ?_)
  refine lv_iconst (v := 0) hx hb dX1_lastSeen_2 (by decide) ?_
  refine lv_istore_n (lv' := [(2, .int 0), (1, .int (-1)), (0, .ref a0)]) hx hb dX1_lastSeen_3 rfl hl (by decide) rfl (fun ls hl => ?_)
  refine lv_pc (pc2 := 4) rfl ?_
  refine lp_gen (fun WW hWW => ?_)
  have kx : ∀ (yk : Int32) (yl : Int32) (H1 : Heap) (locs1 : List Loc) (ls1 : Array Slot), 0 ≤ yk.toInt → yk.toInt ≤ 384 → -1 ≤ yl.toInt → yl.toInt ≤ 95 → tG D (gF cI cL cC gC gE G gW gA) t H1 → tF t wr0 s.heap H1 locs1 → lv_has ls1 3 [(2, .int yk), (1, .int yl), (0, .ref a0)] → WW H1 locs1 (F0 m 38 ls1 []) := by
    intro yk yl H locs ls v0 v1 v2 v3 hG hS hl
    refine (hWW _ _ _).mpr ?_
    refine lv_iload_n hx hb dX1_lastSeen_38 rfl (lv_at hl 1 rfl) ?_
    exact ty_iret hx hb hr hlk hG hS (by omega) dX1_lastSeen_39
  have loop : ∀ (k : Nat) (yk : Int32) (yl : Int32) (H1 : Heap) (locs1 : List Loc) (ls1 : Array Slot), 384 - yk.toInt ≤ (k : Int) → 0 ≤ yk.toInt → yk.toInt ≤ 384 → -1 ≤ yl.toInt → yl.toInt ≤ 95 → tG D (gF cI cL cC gC gE G gW gA) t H1 → tF t wr0 s.heap H1 locs1 → lv_has ls1 3 [(2, .int yk), (1, .int yl), (0, .ref a0)] → WW H1 locs1 (F0 m 4 ls1 []) := by
    intro k
    induction k with
    | zero =>
      intro yk yl H locs ls hk v0 v1 v2 v3 hG hS hl
      refine (hWW _ _ _).mpr ?_
      refine lv_iload_n hx hb dX1_lastSeen_4 rfl (lv_at hl 0 rfl) ?_
      refine lv_pc (pc2 := 5) rfl ?_
      refine lv_aload_n hx hb dX1_lastSeen_5 rfl (lv_at hl 2 rfl) ?_
      obtain ⟨r_1, r_3, r_5, at_7, h_2, h_4, h_6⟩ := gF_o6 hG k_a0
      refine va_get (D := D) (ci := 1) (v := .ref r_5) (C := RX1) (T := TX1) (N := 4) hx hb hts in1 hown hK (va_one at_7) 0 rfl rfl 2 (by decide) (hts (.fieldLink RX1 18 "RiverModel$Gauges" "seen" "[I") (List.mem_of_getElem? (i := 1) rfl)) (fun _ h9 => h9) rfl dX1_lastSeen_6 ?_
      obtain ⟨f_8, at_9⟩ := gF_o23 hG h_6
      refine va_alen (v := 384) hx hb hK (va_one at_9) 0 0 rfl rfl rfl dX1_lastSeen_9 ?_
      refine lv_icmp_ge (tgt := 38) hx hb dX1_lastSeen_10 (by decide) (fun c_10 => ?_) (fun c_10 => ?_)
      · skip
        have c_10 : 384 ≤ yk.toInt := q_le c_10
        exact (hWW _ _ _).mp (kx yk yl H locs ls (by omega) (by omega) (by omega) (by omega) hG hS (lv_sub hl [0, 1, 2] rfl))
      · skip
        have c_10 : yk.toInt < 384 := q_nle c_10
        refine lv_aload_n hx hb dX1_lastSeen_13 rfl (lv_at hl 2 rfl) ?_
        refine va_get (D := D) (ci := 1) (v := .ref r_5) (C := RX1) (T := TX1) (N := 4) hx hb hts in1 hown hK (va_one at_7) 0 rfl rfl 2 (by decide) (hts (.fieldLink RX1 18 "RiverModel$Gauges" "seen" "[I") (List.mem_of_getElem? (i := 1) rfl)) (fun _ h9 => h9) rfl dX1_lastSeen_14 ?_
        refine lv_iload_n hx hb dX1_lastSeen_17 rfl (lv_at hl 0 rfl) ?_
        have b_11 : vp_in yk 384 := (q_in (by omega) (by omega))
        refine va_iald hx hb hK (va_one at_9) 0 0 rfl rfl b_11 dX1_lastSeen_18 ?_
        refine lv_topi (fun x_12 e_13 => ?_)
        refine lv_pc (pc2 := 19) rfl ?_
        refine lv_iconst (v := (-1)) hx hb dX1_lastSeen_19 (by decide) ?_
        refine lv_icmp_eq (tgt := 32) hx hb dX1_lastSeen_20 (by decide) (fun c_14 => ?_) (fun c_14 => ?_)
        · skip
          have c_14 : x_12.toInt = (-1) := q_eq c_14
          obtain ⟨x_15, e_16⟩ : ∃ y : Int32, y = yk + Int32.ofInt 1 := ⟨_, rfl⟩
          have i_x_15 : x_15.toInt = yk.toInt + 1 := by rw [e_16, show Int32.ofInt 1 = 1 by decide]; exact (q_add (by rw [show (1 : Int32).toInt = 1 by decide]; omega) (by rw [show (1 : Int32).toInt = 1 by decide]; omega)).trans (by rw [show (1 : Int32).toInt = 1 by decide])
          refine lv_iinc (v := x_15) (lv' := [(2, .int x_15), (1, .int yl), (0, .ref a0)]) hx hb dX1_lastSeen_32 hl (k := 0) rfl e_16.symm (by decide) rfl (fun ls hl => ?_)
          refine lv_goto (tgt := 4) hx hb dX1_lastSeen_35 (by decide) ?_
          exfalso; omega
        · skip
          have c_14 : x_12.toInt ≠ (-1) := q_ne c_14
          refine lv_iload_n hx hb dX1_lastSeen_23 rfl (lv_at hl 1 rfl) ?_
          refine lv_iload_n hx hb dX1_lastSeen_24 rfl (lv_at hl 0 rfl) ?_
          refine lv_bipush (v := 96) hx hb dX1_lastSeen_25 (by decide) ?_
          refine lv_irem hx hb dX1_lastSeen_27 (by decide) ?_
          refine lv_topi (fun x_17 e_18 => ?_)
          have i_x_17 : 0 ≤ x_17.toInt ∧ x_17.toInt < 96 := by rw [e_18]; exact q_rem (n := 96) rfl (by decide) (by omega)
          refine lv_pc (pc2 := 28) rfl ?_
          refine va_mmax hx hb (by rw [hml]; exact hl.1.symm) hown (hts (.methodLink RX1 67 Lib.Math.max.name) (List.mem_of_getElem? (i := 2) rfl)) (hts (.static Lib.Math.max.name) (List.mem_of_getElem? (i := 3) rfl)) (hts (.initialized "java/lang/Math") (List.mem_of_getElem? (i := 4) rfl)) (hts (.code Lib.Math.max.name Lib.Math.max.code 2 (some .int)) (List.mem_of_getElem? (i := 5) rfl)) (Nat.le_of_ble_eq_true rfl) (Nat.le_of_ble_eq_true rfl) (Nat.zero_le _) (Nat.zero_le _) dX1_lastSeen_28 ?_
          refine lv_topi (fun x_19 e_20 => ?_)
          have m_x_19 : yl.toInt ≤ x_19.toInt ∧ x_17.toInt ≤ x_19.toInt ∧ (x_19.toInt = yl.toInt ∨ x_19.toInt = x_17.toInt) := by rw [e_20]; exact q_max _ _
          refine lv_istore_n (lv' := [(1, .int x_19), (2, .int yk), (0, .ref a0)]) hx hb dX1_lastSeen_31 rfl hl (by decide) rfl (fun ls hl => ?_)
          obtain ⟨x_21, e_22⟩ : ∃ y : Int32, y = yk + Int32.ofInt 1 := ⟨_, rfl⟩
          have i_x_21 : x_21.toInt = yk.toInt + 1 := by rw [e_22, show Int32.ofInt 1 = 1 by decide]; exact (q_add (by rw [show (1 : Int32).toInt = 1 by decide]; omega) (by rw [show (1 : Int32).toInt = 1 by decide]; omega)).trans (by rw [show (1 : Int32).toInt = 1 by decide])
          refine lv_iinc (v := x_21) (lv' := [(2, .int x_21), (1, .int x_19), (0, .ref a0)]) hx hb dX1_lastSeen_32 hl (k := 1) rfl e_22.symm (by decide) rfl (fun ls hl => ?_)
          refine lv_goto (tgt := 4) hx hb dX1_lastSeen_35 (by decide) ?_
          exfalso; omega
    | succ k ih =>
      intro yk yl H locs ls hk v0 v1 v2 v3 hG hS hl
      refine (hWW _ _ _).mpr ?_
      refine lv_iload_n hx hb dX1_lastSeen_4 rfl (lv_at hl 0 rfl) ?_
      refine lv_aload_n hx hb dX1_lastSeen_5 rfl (lv_at hl 2 rfl) ?_
      obtain ⟨r_23, r_25, r_27, at_29, h_24, h_26, h_28⟩ := gF_o6 hG k_a0
      refine va_get (D := D) (ci := 1) (v := .ref r_27) (C := RX1) (T := TX1) (N := 4) hx hb hts in1 hown hK (va_one at_29) 0 rfl rfl 2 (by decide) (hts (.fieldLink RX1 18 "RiverModel$Gauges" "seen" "[I") (List.mem_of_getElem? (i := 1) rfl)) (fun _ h9 => h9) rfl dX1_lastSeen_6 ?_
      obtain ⟨f_30, at_31⟩ := gF_o23 hG h_28
      refine va_alen (v := 384) hx hb hK (va_one at_31) 0 0 rfl rfl rfl dX1_lastSeen_9 ?_
      refine lv_pc (pc2 := 10) rfl ?_
      refine lv_icmp_ge (tgt := 38) hx hb dX1_lastSeen_10 (by decide) (fun c_32 => ?_) (fun c_32 => ?_)
      · skip
        have c_32 : 384 ≤ yk.toInt := q_le c_32
        exact (hWW _ _ _).mp (kx yk yl H locs ls (by omega) (by omega) (by omega) (by omega) hG hS (lv_sub hl [0, 1, 2] rfl))
      · skip
        have c_32 : yk.toInt < 384 := q_nle c_32
        refine lv_aload_n hx hb dX1_lastSeen_13 rfl (lv_at hl 2 rfl) ?_
        refine va_get (D := D) (ci := 1) (v := .ref r_27) (C := RX1) (T := TX1) (N := 4) hx hb hts in1 hown hK (va_one at_29) 0 rfl rfl 2 (by decide) (hts (.fieldLink RX1 18 "RiverModel$Gauges" "seen" "[I") (List.mem_of_getElem? (i := 1) rfl)) (fun _ h9 => h9) rfl dX1_lastSeen_14 ?_
        refine lv_iload_n hx hb dX1_lastSeen_17 rfl (lv_at hl 0 rfl) ?_
        have b_33 : vp_in yk 384 := (q_in (by omega) (by omega))
        refine va_iald hx hb hK (va_one at_31) 0 0 rfl rfl b_33 dX1_lastSeen_18 ?_
        refine lv_topi (fun x_34 e_35 => ?_)
        refine lv_iconst (v := (-1)) hx hb dX1_lastSeen_19 (by decide) ?_
        refine lv_icmp_eq (tgt := 32) hx hb dX1_lastSeen_20 (by decide) (fun c_36 => ?_) (fun c_36 => ?_)
        · skip
          have c_36 : x_34.toInt = (-1) := q_eq c_36
          obtain ⟨x_37, e_38⟩ : ∃ y : Int32, y = yk + Int32.ofInt 1 := ⟨_, rfl⟩
          have i_x_37 : x_37.toInt = yk.toInt + 1 := by rw [e_38, show Int32.ofInt 1 = 1 by decide]; exact (q_add (by rw [show (1 : Int32).toInt = 1 by decide]; omega) (by rw [show (1 : Int32).toInt = 1 by decide]; omega)).trans (by rw [show (1 : Int32).toInt = 1 by decide])
          refine lv_iinc (v := x_37) (lv' := [(2, .int x_37), (1, .int yl), (0, .ref a0)]) hx hb dX1_lastSeen_32 hl (k := 0) rfl e_38.symm (by decide) rfl (fun ls hl => ?_)
          refine lv_pc (pc2 := 35) rfl ?_
          refine lv_goto (tgt := 4) hx hb dX1_lastSeen_35 (by decide) ?_
          exact (hWW _ _ _).mp (ih x_37 yl H locs ls (by omega) (by omega) (by omega) (by omega) (by omega) hG hS (lv_sub hl [0, 1, 2] rfl))
        · skip
          have c_36 : x_34.toInt ≠ (-1) := q_ne c_36
          refine lv_iload_n hx hb dX1_lastSeen_23 rfl (lv_at hl 1 rfl) ?_
          refine lv_iload_n hx hb dX1_lastSeen_24 rfl (lv_at hl 0 rfl) ?_
          refine lv_bipush (v := 96) hx hb dX1_lastSeen_25 (by decide) ?_
          refine lv_irem hx hb dX1_lastSeen_27 (by decide) ?_
          refine lv_topi (fun x_39 e_40 => ?_)
          have i_x_39 : 0 ≤ x_39.toInt ∧ x_39.toInt < 96 := by rw [e_40]; exact q_rem (n := 96) rfl (by decide) (by omega)
          refine va_mmax hx hb (by rw [hml]; exact hl.1.symm) hown (hts (.methodLink RX1 67 Lib.Math.max.name) (List.mem_of_getElem? (i := 2) rfl)) (hts (.static Lib.Math.max.name) (List.mem_of_getElem? (i := 3) rfl)) (hts (.initialized "java/lang/Math") (List.mem_of_getElem? (i := 4) rfl)) (hts (.code Lib.Math.max.name Lib.Math.max.code 2 (some .int)) (List.mem_of_getElem? (i := 5) rfl)) (Nat.le_of_ble_eq_true rfl) (Nat.le_of_ble_eq_true rfl) (Nat.zero_le _) (Nat.zero_le _) dX1_lastSeen_28 ?_
          refine lv_topi (fun x_41 e_42 => ?_)
          have m_x_41 : yl.toInt ≤ x_41.toInt ∧ x_39.toInt ≤ x_41.toInt ∧ (x_41.toInt = yl.toInt ∨ x_41.toInt = x_39.toInt) := by rw [e_42]; exact q_max _ _
          refine lv_istore_n (lv' := [(1, .int x_41), (2, .int yk), (0, .ref a0)]) hx hb dX1_lastSeen_31 rfl hl (by decide) rfl (fun ls hl => ?_)
          obtain ⟨x_43, e_44⟩ : ∃ y : Int32, y = yk + Int32.ofInt 1 := ⟨_, rfl⟩
          have i_x_43 : x_43.toInt = yk.toInt + 1 := by rw [e_44, show Int32.ofInt 1 = 1 by decide]; exact (q_add (by rw [show (1 : Int32).toInt = 1 by decide]; omega) (by rw [show (1 : Int32).toInt = 1 by decide]; omega)).trans (by rw [show (1 : Int32).toInt = 1 by decide])
          refine lv_iinc (v := x_43) (lv' := [(2, .int x_43), (1, .int x_41), (0, .ref a0)]) hx hb dX1_lastSeen_32 hl (k := 1) rfl e_44.symm (by decide) rfl (fun ls hl => ?_)
          refine lv_pc (pc2 := 35) rfl ?_
          refine lv_goto (tgt := 4) hx hb dX1_lastSeen_35 (by decide) ?_
          exact (hWW _ _ _).mp (ih x_43 x_41 H locs ls (by omega) (by omega) (by omega) (by omega) (by omega) hG hS (lv_sub hl [0, 1, 2] rfl))
  have hz_yk : (0 : Int32).toInt = 0 := by decide
  have hz_yl : ((-1) : Int32).toInt = (-1) := by decide
  exact loop (384 - 0 : Int).toNat 0 (-1) H locs ls (by omega) (by omega) (by omega) (by omega) (by omega) hG hS (lv_sub hl [0, 1, 2] rfl)

def uX1_setMany : List Cond := .code yX1_setMany cX1_setMany 3 (some .int) :: ([.methodLink RX1 35 yX1_isSet, .instanceMethod yX1_isSet, .selects RX1 yX1_isSet yX1_isSet, .initialized RX1, .code yX1_isSet cX1_isSet 2 (some .boolean), .fieldLink RX1 9 "RiverModel$Gauges" "whats" "[I"] ++ wsX10)
set_option maxRecDepth 20000 in
theorem gu_X1_setMany_X1_isSet_35 : GoodIn uX1_setMany (wsV RX1 35 RX1 yX1_isSet uX1_isSet) := goodIn_r _ [1, 2, 3, 4, 5, 6, 7, 8, 9, 10] rfl (by decide +kernel)
set_option maxHeartbeats 4000000 in
set_option maxRecDepth 100000 in
theorem s_X1_setMany (l : Launch) (D : va_G) (t : Nat → Nat) (cI cL cC : ClassId) (gC : Int32) (gE : Int32) (G : Nat) (gW : Nat → Int32) (gA : Nat → Int32) (a0 : Nat) (k_a0 : t a0 = 6) : tM l yX1_setMany uX1_setMany 1 21 D (gF cI cL cC gC gE G gW gA) (gF cI cL cC gC gE G gW gA) t cI cL cC [.ref a0] wr0 (pI (fun r => True)) := by
  refine tM.ofW (cc := cX1_setMany) (maxL := 3) (ret := (some .int)) (by decide) rfl (Nat.le_of_ble_eq_true rfl) ?_
  intro p e s m below meth c hx hb hr hml hown hts hlk H locs hG hK hE hS ls hl
  have hl : lv_has ls 3 [(0, .ref a0)] := hl
  skip
  refine lv_iconst (v := 0) hx hb dX1_setMany_0 (by decide) ?_
  refine lv_istore_n (lv' := [(1, .int 0), (0, .ref a0)]) hx hb dX1_setMany_1 rfl hl (by decide) rfl (fun ls hl => ?_)
  refine lv_iconst (v := 0) hx hb dX1_setMany_2 (by decide) ?_
  refine lv_istore_n (lv' := [(2, .int 0), (1, .int 0), (0, .ref a0)]) hx hb dX1_setMany_3 rfl hl (by decide) rfl (fun ls hl => ?_)
  refine lv_pc (pc2 := 4) rfl ?_
  refine lp_gen (fun WW hWW => ?_)
  have kx : ∀ (yk : Int32) (ym : Int32) (H1 : Heap) (locs1 : List Loc) (ls1 : Array Slot), 0 ≤ yk.toInt → yk.toInt ≤ 4 → tG D (gF cI cL cC gC gE G gW gA) t H1 → tF t wr0 s.heap H1 locs1 → lv_has ls1 3 [(2, .int yk), (1, .int ym), (0, .ref a0)] → WW H1 locs1 (F0 m 31 ls1 []) := by
    intro yk ym H locs ls v0 v1 hG hS hl
    refine (hWW _ _ _).mpr ?_
    refine lv_iload_n hx hb dX1_setMany_31 rfl (lv_at hl 1 rfl) ?_
    exact ty_iret hx hb hr hlk hG hS True.intro dX1_setMany_32
  have loop : ∀ (k : Nat) (yk : Int32) (ym : Int32) (H1 : Heap) (locs1 : List Loc) (ls1 : Array Slot), 4 - yk.toInt ≤ (k : Int) → 0 ≤ yk.toInt → yk.toInt ≤ 4 → tG D (gF cI cL cC gC gE G gW gA) t H1 → tF t wr0 s.heap H1 locs1 → lv_has ls1 3 [(2, .int yk), (1, .int ym), (0, .ref a0)] → WW H1 locs1 (F0 m 4 ls1 []) := by
    intro k
    induction k with
    | zero =>
      intro yk ym H locs ls hk v0 v1 hG hS hl
      refine (hWW _ _ _).mpr ?_
      refine lv_iload_n hx hb dX1_setMany_4 rfl (lv_at hl 0 rfl) ?_
      refine lv_pc (pc2 := 5) rfl ?_
      refine lv_iconst (v := 4) hx hb dX1_setMany_5 (by decide) ?_
      refine lv_icmp_ge (tgt := 31) hx hb dX1_setMany_6 (by decide) (fun c_1 => ?_) (fun c_1 => ?_)
      · skip
        have c_1 : 4 ≤ yk.toInt := q_le c_1
        exact (hWW _ _ _).mp (kx yk ym H locs ls (by omega) (by omega) hG hS (lv_sub hl [0, 1, 2] rfl))
      · skip
        have c_1 : yk.toInt < 4 := q_nle c_1
        refine lv_iload_n hx hb dX1_setMany_9 rfl (lv_at hl 1 rfl) ?_
        refine lv_aload_n hx hb dX1_setMany_10 rfl (lv_at hl 2 rfl) ?_
        refine lv_iload_n hx hb dX1_setMany_11 rfl (lv_at hl 0 rfl) ?_
        obtain ⟨r_2, r_4, r_6, at_8, h_3, h_5, h_7⟩ := gF_o6 hG k_a0
        refine ty_calli ((W.runV (As := [.int yk]) (rest := [.int ym]) ⟨hx, hb, hml, hown, hts⟩ (s_X1_isSet l D t cI cL cC gC gE G gW gA a0 yk k_a0) (cwV 1 hts gu_X1_setMany_X1_isSet_35 rfl rfl rfl (by decide +kernel) ⟨Nat.le_of_ble_eq_true rfl, Nat.le_of_ble_eq_true rfl⟩) (tP_V hG hE at_8 rfl) rfl rfl hl.1 rfl (lv_room (Nat.le_of_ble_eq_true rfl)) dX1_setMany_12 ⟨Nat.le_of_ble_eq_true rfl, Nat.le_of_ble_eq_true rfl⟩)) hS (fun _ h => h) (fun r_9 H locs hp_10 hG hS o_11 => ?_)
        have at_8 := va_at.keptC at_8 o_11 k_a0 rfl
        rcases hp_10 with ⟨rfl, hc_71, hc_72⟩ | ⟨rfl, _⟩
        · skip
          refine lv_if_eq (tgt := 22) hx hb dX1_setMany_15 (by decide) (fun q => absurd q (by decide)) (fun _ => ?_)
          refine lv_iconst (v := 1) hx hb dX1_setMany_18 (by decide) ?_
          refine lv_pc (pc2 := 19) rfl ?_
          refine lv_goto (tgt := 23) hx hb dX1_setMany_19 (by decide) ?_
          refine lv_iadd hx hb dX1_setMany_23 ?_
          refine lv_topi (fun x_12 e_13 => ?_)
          refine lv_istore_n (lv' := [(1, .int x_12), (2, .int yk), (0, .ref a0)]) hx hb dX1_setMany_24 rfl hl (by decide) rfl (fun ls hl => ?_)
          obtain ⟨x_14, e_15⟩ : ∃ y : Int32, y = yk + Int32.ofInt 1 := ⟨_, rfl⟩
          have i_x_14 : x_14.toInt = yk.toInt + 1 := by rw [e_15, show Int32.ofInt 1 = 1 by decide]; exact (q_add (by rw [show (1 : Int32).toInt = 1 by decide]; omega) (by rw [show (1 : Int32).toInt = 1 by decide]; omega)).trans (by rw [show (1 : Int32).toInt = 1 by decide])
          refine lv_iinc (v := x_14) (lv' := [(2, .int x_14), (1, .int x_12), (0, .ref a0)]) hx hb dX1_setMany_25 hl (k := 1) rfl e_15.symm (by decide) rfl (fun ls hl => ?_)
          refine lv_goto (tgt := 4) hx hb dX1_setMany_28 (by decide) ?_
          exfalso; omega
        · skip
          refine lv_if_eq (tgt := 22) hx hb dX1_setMany_15 (by decide) (fun _ => ?_) (fun q => absurd (by decide) q)
          refine lv_iconst (v := 0) hx hb dX1_setMany_22 (by decide) ?_
          refine lv_iadd hx hb dX1_setMany_23 ?_
          refine lv_topi (fun x_16 e_17 => ?_)
          refine lv_pc (pc2 := 24) rfl ?_
          refine lv_istore_n (lv' := [(1, .int x_16), (2, .int yk), (0, .ref a0)]) hx hb dX1_setMany_24 rfl hl (by decide) rfl (fun ls hl => ?_)
          obtain ⟨x_18, e_19⟩ : ∃ y : Int32, y = yk + Int32.ofInt 1 := ⟨_, rfl⟩
          have i_x_18 : x_18.toInt = yk.toInt + 1 := by rw [e_19, show Int32.ofInt 1 = 1 by decide]; exact (q_add (by rw [show (1 : Int32).toInt = 1 by decide]; omega) (by rw [show (1 : Int32).toInt = 1 by decide]; omega)).trans (by rw [show (1 : Int32).toInt = 1 by decide])
          refine lv_iinc (v := x_18) (lv' := [(2, .int x_18), (1, .int x_16), (0, .ref a0)]) hx hb dX1_setMany_25 hl (k := 1) rfl e_19.symm (by decide) rfl (fun ls hl => ?_)
          refine lv_goto (tgt := 4) hx hb dX1_setMany_28 (by decide) ?_
          exfalso; omega
    | succ k ih =>
      intro yk ym H locs ls hk v0 v1 hG hS hl
      refine (hWW _ _ _).mpr ?_
      refine lv_iload_n hx hb dX1_setMany_4 rfl (lv_at hl 0 rfl) ?_
      refine lv_iconst (v := 4) hx hb dX1_setMany_5 (by decide) ?_
      refine lv_icmp_ge (tgt := 31) hx hb dX1_setMany_6 (by decide) (fun c_20 => ?_) (fun c_20 => ?_)
      · skip
        have c_20 : 4 ≤ yk.toInt := q_le c_20
        exact (hWW _ _ _).mp (kx yk ym H locs ls (by omega) (by omega) hG hS (lv_sub hl [0, 1, 2] rfl))
      · skip
        have c_20 : yk.toInt < 4 := q_nle c_20
        refine lv_iload_n hx hb dX1_setMany_9 rfl (lv_at hl 1 rfl) ?_
        refine lv_aload_n hx hb dX1_setMany_10 rfl (lv_at hl 2 rfl) ?_
        refine lv_pc (pc2 := 11) rfl ?_
        refine lv_iload_n hx hb dX1_setMany_11 rfl (lv_at hl 0 rfl) ?_
        obtain ⟨r_21, r_23, r_25, at_27, h_22, h_24, h_26⟩ := gF_o6 hG k_a0
        refine ty_calli ((W.runV (As := [.int yk]) (rest := [.int ym]) ⟨hx, hb, hml, hown, hts⟩ (s_X1_isSet l D t cI cL cC gC gE G gW gA a0 yk k_a0) (cwV 1 hts gu_X1_setMany_X1_isSet_35 rfl rfl rfl (by decide +kernel) ⟨Nat.le_of_ble_eq_true rfl, Nat.le_of_ble_eq_true rfl⟩) (tP_V hG hE at_27 rfl) rfl rfl hl.1 rfl (lv_room (Nat.le_of_ble_eq_true rfl)) dX1_setMany_12 ⟨Nat.le_of_ble_eq_true rfl, Nat.le_of_ble_eq_true rfl⟩)) hS (fun _ h => h) (fun r_28 H locs hp_29 hG hS o_30 => ?_)
        have at_27 := va_at.keptC at_27 o_30 k_a0 rfl
        rcases hp_29 with ⟨rfl, hc_73, hc_74⟩ | ⟨rfl, _⟩
        · skip
          refine lv_if_eq (tgt := 22) hx hb dX1_setMany_15 (by decide) (fun q => absurd q (by decide)) (fun _ => ?_)
          refine lv_iconst (v := 1) hx hb dX1_setMany_18 (by decide) ?_
          refine lv_goto (tgt := 23) hx hb dX1_setMany_19 (by decide) ?_
          refine lv_iadd hx hb dX1_setMany_23 ?_
          refine lv_topi (fun x_31 e_32 => ?_)
          refine lv_istore_n (lv' := [(1, .int x_31), (2, .int yk), (0, .ref a0)]) hx hb dX1_setMany_24 rfl hl (by decide) rfl (fun ls hl => ?_)
          obtain ⟨x_33, e_34⟩ : ∃ y : Int32, y = yk + Int32.ofInt 1 := ⟨_, rfl⟩
          have i_x_33 : x_33.toInt = yk.toInt + 1 := by rw [e_34, show Int32.ofInt 1 = 1 by decide]; exact (q_add (by rw [show (1 : Int32).toInt = 1 by decide]; omega) (by rw [show (1 : Int32).toInt = 1 by decide]; omega)).trans (by rw [show (1 : Int32).toInt = 1 by decide])
          refine lv_iinc (v := x_33) (lv' := [(2, .int x_33), (1, .int x_31), (0, .ref a0)]) hx hb dX1_setMany_25 hl (k := 1) rfl e_34.symm (by decide) rfl (fun ls hl => ?_)
          refine lv_pc (pc2 := 28) rfl ?_
          refine lv_goto (tgt := 4) hx hb dX1_setMany_28 (by decide) ?_
          exact (hWW _ _ _).mp (ih x_33 x_31 H locs ls (by omega) (by omega) (by omega) hG hS (lv_sub hl [0, 1, 2] rfl))
        · skip
          refine lv_if_eq (tgt := 22) hx hb dX1_setMany_15 (by decide) (fun _ => ?_) (fun q => absurd (by decide) q)
          refine lv_iconst (v := 0) hx hb dX1_setMany_22 (by decide) ?_
          refine lv_iadd hx hb dX1_setMany_23 ?_
          refine lv_topi (fun x_35 e_36 => ?_)
          refine lv_istore_n (lv' := [(1, .int x_35), (2, .int yk), (0, .ref a0)]) hx hb dX1_setMany_24 rfl hl (by decide) rfl (fun ls hl => ?_)
          obtain ⟨x_37, e_38⟩ : ∃ y : Int32, y = yk + Int32.ofInt 1 := ⟨_, rfl⟩
          have i_x_37 : x_37.toInt = yk.toInt + 1 := by rw [e_38, show Int32.ofInt 1 = 1 by decide]; exact (q_add (by rw [show (1 : Int32).toInt = 1 by decide]; omega) (by rw [show (1 : Int32).toInt = 1 by decide]; omega)).trans (by rw [show (1 : Int32).toInt = 1 by decide])
          refine lv_iinc (v := x_37) (lv' := [(2, .int x_37), (1, .int x_35), (0, .ref a0)]) hx hb dX1_setMany_25 hl (k := 1) rfl e_38.symm (by decide) rfl (fun ls hl => ?_)
          refine lv_goto (tgt := 4) hx hb dX1_setMany_28 (by decide) ?_
          exact (hWW _ _ _).mp (ih x_37 x_35 H locs ls (by omega) (by omega) (by omega) hG hS (lv_sub hl [0, 1, 2] rfl))
  have hz_yk : (0 : Int32).toInt = 0 := by decide
  have hz_ym : (0 : Int32).toInt = 0 := by decide
  exact loop (4 - 0 : Int).toNat 0 0 H locs ls (by omega) (by omega) (by omega) hG hS (lv_sub hl [0, 1, 2] rfl)

def uX1_seenMany : List Cond := .code yX1_seenMany cX1_seenMany 3 (some .int) :: ([.fieldLink RX1 18 "RiverModel$Gauges" "seen" "[I"] ++ wsX10)
set_option maxHeartbeats 4000000 in
set_option maxRecDepth 100000 in
theorem s_X1_seenMany (l : Launch) (D : va_G) (t : Nat → Nat) (cI cL cC : ClassId) (gC : Int32) (gE : Int32) (G : Nat) (gW : Nat → Int32) (gA : Nat → Int32) (a0 : Nat) (k_a0 : t a0 = 6) : tM l yX1_seenMany uX1_seenMany 0 0 D (gF cI cL cC gC gE G gW gA) (gF cI cL cC gC gE G gW gA) t cI cL cC [.ref a0] wr0 (pI (fun r => True)) := by
  refine tM.ofW (cc := cX1_seenMany) (maxL := 3) (ret := (some .int)) (by decide) rfl (Nat.le_of_ble_eq_true rfl) ?_
  intro p e s m below meth c hx hb hr hml hown hts hlk H locs hG hK hE hS ls hl
  have hl : lv_has ls 3 [(0, .ref a0)] := hl
  have in1 : ∀ w ∈ wsX10, w ∈ uX1_seenMany := fun w h => List.mem_cons_of_mem _ (List.mem_append_right _ h)
  refine lv_iconst (v := 0) hx hb dX1_seenMany_0 (by decide) ?_
  refine lv_istore_n (lv' := [(1, .int 0), (0, .ref a0)]) hx hb dX1_seenMany_1 rfl hl (by decide) rfl (fun ls hl => ?_)
  refine lv_iconst (v := 0) hx hb dX1_seenMany_2 (by decide) ?_
  refine lv_istore_n (lv' := [(2, .int 0), (1, .int 0), (0, .ref a0)]) hx hb dX1_seenMany_3 rfl hl (by decide) rfl (fun ls hl => ?_)
  refine lv_pc (pc2 := 4) rfl ?_
  refine lp_gen (fun WW hWW => ?_)
  have kx : ∀ (yk : Int32) (ym : Int32) (H1 : Heap) (locs1 : List Loc) (ls1 : Array Slot), 0 ≤ yk.toInt → yk.toInt ≤ 384 → tG D (gF cI cL cC gC gE G gW gA) t H1 → tF t wr0 s.heap H1 locs1 → lv_has ls1 3 [(2, .int yk), (1, .int ym), (0, .ref a0)] → WW H1 locs1 (F0 m 37 ls1 []) := by
    intro yk ym H locs ls v0 v1 hG hS hl
    refine (hWW _ _ _).mpr ?_
    refine lv_iload_n hx hb dX1_seenMany_37 rfl (lv_at hl 1 rfl) ?_
    exact ty_iret hx hb hr hlk hG hS True.intro dX1_seenMany_38
  have loop : ∀ (k : Nat) (yk : Int32) (ym : Int32) (H1 : Heap) (locs1 : List Loc) (ls1 : Array Slot), 384 - yk.toInt ≤ (k : Int) → 0 ≤ yk.toInt → yk.toInt ≤ 384 → tG D (gF cI cL cC gC gE G gW gA) t H1 → tF t wr0 s.heap H1 locs1 → lv_has ls1 3 [(2, .int yk), (1, .int ym), (0, .ref a0)] → WW H1 locs1 (F0 m 4 ls1 []) := by
    intro k
    induction k with
    | zero =>
      intro yk ym H locs ls hk v0 v1 hG hS hl
      refine (hWW _ _ _).mpr ?_
      refine lv_iload_n hx hb dX1_seenMany_4 rfl (lv_at hl 0 rfl) ?_
      refine lv_pc (pc2 := 5) rfl ?_
      refine lv_aload_n hx hb dX1_seenMany_5 rfl (lv_at hl 2 rfl) ?_
      obtain ⟨r_1, r_3, r_5, at_7, h_2, h_4, h_6⟩ := gF_o6 hG k_a0
      refine va_get (D := D) (ci := 1) (v := .ref r_5) (C := RX1) (T := TX1) (N := 4) hx hb hts in1 hown hK (va_one at_7) 0 rfl rfl 2 (by decide) (hts (.fieldLink RX1 18 "RiverModel$Gauges" "seen" "[I") (List.mem_of_getElem? (i := 1) rfl)) (fun _ h9 => h9) rfl dX1_seenMany_6 ?_
      obtain ⟨f_8, at_9⟩ := gF_o23 hG h_6
      refine va_alen (v := 384) hx hb hK (va_one at_9) 0 0 rfl rfl rfl dX1_seenMany_9 ?_
      refine lv_icmp_ge (tgt := 37) hx hb dX1_seenMany_10 (by decide) (fun c_10 => ?_) (fun c_10 => ?_)
      · skip
        have c_10 : 384 ≤ yk.toInt := q_le c_10
        exact (hWW _ _ _).mp (kx yk ym H locs ls (by omega) (by omega) hG hS (lv_sub hl [0, 1, 2] rfl))
      · skip
        have c_10 : yk.toInt < 384 := q_nle c_10
        refine lv_iload_n hx hb dX1_seenMany_13 rfl (lv_at hl 1 rfl) ?_
        refine lv_aload_n hx hb dX1_seenMany_14 rfl (lv_at hl 2 rfl) ?_
        refine va_get (D := D) (ci := 1) (v := .ref r_5) (C := RX1) (T := TX1) (N := 4) hx hb hts in1 hown hK (va_one at_7) 0 rfl rfl 2 (by decide) (hts (.fieldLink RX1 18 "RiverModel$Gauges" "seen" "[I") (List.mem_of_getElem? (i := 1) rfl)) (fun _ h9 => h9) rfl dX1_seenMany_15 ?_
        refine lv_iload_n hx hb dX1_seenMany_18 rfl (lv_at hl 0 rfl) ?_
        refine lv_pc (pc2 := 19) rfl ?_
        have b_11 : vp_in yk 384 := (q_in (by omega) (by omega))
        refine va_iald hx hb hK (va_one at_9) 0 0 rfl rfl b_11 dX1_seenMany_19 ?_
        refine lv_topi (fun x_12 e_13 => ?_)
        refine lv_iconst (v := (-1)) hx hb dX1_seenMany_20 (by decide) ?_
        refine lv_icmp_eq (tgt := 28) hx hb dX1_seenMany_21 (by decide) (fun c_14 => ?_) (fun c_14 => ?_)
        · skip
          have c_14 : x_12.toInt = (-1) := q_eq c_14
          refine lv_iconst (v := 0) hx hb dX1_seenMany_28 (by decide) ?_
          refine lv_iadd hx hb dX1_seenMany_29 ?_
          refine lv_topi (fun x_15 e_16 => ?_)
          refine lv_istore_n (lv' := [(1, .int x_15), (2, .int yk), (0, .ref a0)]) hx hb dX1_seenMany_30 rfl hl (by decide) rfl (fun ls hl => ?_)
          obtain ⟨x_17, e_18⟩ : ∃ y : Int32, y = yk + Int32.ofInt 1 := ⟨_, rfl⟩
          have i_x_17 : x_17.toInt = yk.toInt + 1 := by rw [e_18, show Int32.ofInt 1 = 1 by decide]; exact (q_add (by rw [show (1 : Int32).toInt = 1 by decide]; omega) (by rw [show (1 : Int32).toInt = 1 by decide]; omega)).trans (by rw [show (1 : Int32).toInt = 1 by decide])
          refine lv_iinc (v := x_17) (lv' := [(2, .int x_17), (1, .int x_15), (0, .ref a0)]) hx hb dX1_seenMany_31 hl (k := 1) rfl e_18.symm (by decide) rfl (fun ls hl => ?_)
          refine lv_goto (tgt := 4) hx hb dX1_seenMany_34 (by decide) ?_
          exfalso; omega
        · skip
          have c_14 : x_12.toInt ≠ (-1) := q_ne c_14
          refine lv_pc (pc2 := 24) rfl ?_
          refine lv_iconst (v := 1) hx hb dX1_seenMany_24 (by decide) ?_
          refine lv_goto (tgt := 29) hx hb dX1_seenMany_25 (by decide) ?_
          refine lv_iadd hx hb dX1_seenMany_29 ?_
          refine lv_topi (fun x_19 e_20 => ?_)
          refine lv_istore_n (lv' := [(1, .int x_19), (2, .int yk), (0, .ref a0)]) hx hb dX1_seenMany_30 rfl hl (by decide) rfl (fun ls hl => ?_)
          obtain ⟨x_21, e_22⟩ : ∃ y : Int32, y = yk + Int32.ofInt 1 := ⟨_, rfl⟩
          have i_x_21 : x_21.toInt = yk.toInt + 1 := by rw [e_22, show Int32.ofInt 1 = 1 by decide]; exact (q_add (by rw [show (1 : Int32).toInt = 1 by decide]; omega) (by rw [show (1 : Int32).toInt = 1 by decide]; omega)).trans (by rw [show (1 : Int32).toInt = 1 by decide])
          refine lv_iinc (v := x_21) (lv' := [(2, .int x_21), (1, .int x_19), (0, .ref a0)]) hx hb dX1_seenMany_31 hl (k := 1) rfl e_22.symm (by decide) rfl (fun ls hl => ?_)
          refine lv_goto (tgt := 4) hx hb dX1_seenMany_34 (by decide) ?_
          exfalso; omega
    | succ k ih =>
      intro yk ym H locs ls hk v0 v1 hG hS hl
      refine (hWW _ _ _).mpr ?_
      refine lv_iload_n hx hb dX1_seenMany_4 rfl (lv_at hl 0 rfl) ?_
      refine lv_aload_n hx hb dX1_seenMany_5 rfl (lv_at hl 2 rfl) ?_
      refine lv_pc (pc2 := 6) rfl ?_
      obtain ⟨r_23, r_25, r_27, at_29, h_24, h_26, h_28⟩ := gF_o6 hG k_a0
      refine va_get (D := D) (ci := 1) (v := .ref r_27) (C := RX1) (T := TX1) (N := 4) hx hb hts in1 hown hK (va_one at_29) 0 rfl rfl 2 (by decide) (hts (.fieldLink RX1 18 "RiverModel$Gauges" "seen" "[I") (List.mem_of_getElem? (i := 1) rfl)) (fun _ h9 => h9) rfl dX1_seenMany_6 ?_
      obtain ⟨f_30, at_31⟩ := gF_o23 hG h_28
      refine va_alen (v := 384) hx hb hK (va_one at_31) 0 0 rfl rfl rfl dX1_seenMany_9 ?_
      refine lv_icmp_ge (tgt := 37) hx hb dX1_seenMany_10 (by decide) (fun c_32 => ?_) (fun c_32 => ?_)
      · skip
        have c_32 : 384 ≤ yk.toInt := q_le c_32
        exact (hWW _ _ _).mp (kx yk ym H locs ls (by omega) (by omega) hG hS (lv_sub hl [0, 1, 2] rfl))
      · skip
        have c_32 : yk.toInt < 384 := q_nle c_32
        refine lv_iload_n hx hb dX1_seenMany_13 rfl (lv_at hl 1 rfl) ?_
        refine lv_aload_n hx hb dX1_seenMany_14 rfl (lv_at hl 2 rfl) ?_
        refine va_get (D := D) (ci := 1) (v := .ref r_27) (C := RX1) (T := TX1) (N := 4) hx hb hts in1 hown hK (va_one at_29) 0 rfl rfl 2 (by decide) (hts (.fieldLink RX1 18 "RiverModel$Gauges" "seen" "[I") (List.mem_of_getElem? (i := 1) rfl)) (fun _ h9 => h9) rfl dX1_seenMany_15 ?_
        refine lv_iload_n hx hb dX1_seenMany_18 rfl (lv_at hl 0 rfl) ?_
        have b_33 : vp_in yk 384 := (q_in (by omega) (by omega))
        refine va_iald hx hb hK (va_one at_31) 0 0 rfl rfl b_33 dX1_seenMany_19 ?_
        refine lv_topi (fun x_34 e_35 => ?_)
        refine lv_pc (pc2 := 20) rfl ?_
        refine lv_iconst (v := (-1)) hx hb dX1_seenMany_20 (by decide) ?_
        refine lv_icmp_eq (tgt := 28) hx hb dX1_seenMany_21 (by decide) (fun c_36 => ?_) (fun c_36 => ?_)
        · skip
          have c_36 : x_34.toInt = (-1) := q_eq c_36
          refine lv_iconst (v := 0) hx hb dX1_seenMany_28 (by decide) ?_
          refine lv_iadd hx hb dX1_seenMany_29 ?_
          refine lv_topi (fun x_37 e_38 => ?_)
          refine lv_istore_n (lv' := [(1, .int x_37), (2, .int yk), (0, .ref a0)]) hx hb dX1_seenMany_30 rfl hl (by decide) rfl (fun ls hl => ?_)
          obtain ⟨x_39, e_40⟩ : ∃ y : Int32, y = yk + Int32.ofInt 1 := ⟨_, rfl⟩
          have i_x_39 : x_39.toInt = yk.toInt + 1 := by rw [e_40, show Int32.ofInt 1 = 1 by decide]; exact (q_add (by rw [show (1 : Int32).toInt = 1 by decide]; omega) (by rw [show (1 : Int32).toInt = 1 by decide]; omega)).trans (by rw [show (1 : Int32).toInt = 1 by decide])
          refine lv_iinc (v := x_39) (lv' := [(2, .int x_39), (1, .int x_37), (0, .ref a0)]) hx hb dX1_seenMany_31 hl (k := 1) rfl e_40.symm (by decide) rfl (fun ls hl => ?_)
          refine lv_goto (tgt := 4) hx hb dX1_seenMany_34 (by decide) ?_
          exact (hWW _ _ _).mp (ih x_39 x_37 H locs ls (by omega) (by omega) (by omega) hG hS (lv_sub hl [0, 1, 2] rfl))
        · skip
          have c_36 : x_34.toInt ≠ (-1) := q_ne c_36
          refine lv_iconst (v := 1) hx hb dX1_seenMany_24 (by decide) ?_
          refine lv_pc (pc2 := 25) rfl ?_
          refine lv_goto (tgt := 29) hx hb dX1_seenMany_25 (by decide) ?_
          refine lv_iadd hx hb dX1_seenMany_29 ?_
          refine lv_topi (fun x_41 e_42 => ?_)
          refine lv_istore_n (lv' := [(1, .int x_41), (2, .int yk), (0, .ref a0)]) hx hb dX1_seenMany_30 rfl hl (by decide) rfl (fun ls hl => ?_)
          obtain ⟨x_43, e_44⟩ : ∃ y : Int32, y = yk + Int32.ofInt 1 := ⟨_, rfl⟩
          have i_x_43 : x_43.toInt = yk.toInt + 1 := by rw [e_44, show Int32.ofInt 1 = 1 by decide]; exact (q_add (by rw [show (1 : Int32).toInt = 1 by decide]; omega) (by rw [show (1 : Int32).toInt = 1 by decide]; omega)).trans (by rw [show (1 : Int32).toInt = 1 by decide])
          refine lv_iinc (v := x_43) (lv' := [(2, .int x_43), (1, .int x_41), (0, .ref a0)]) hx hb dX1_seenMany_31 hl (k := 1) rfl e_44.symm (by decide) rfl (fun ls hl => ?_)
          refine lv_goto (tgt := 4) hx hb dX1_seenMany_34 (by decide) ?_
          exact (hWW _ _ _).mp (ih x_43 x_41 H locs ls (by omega) (by omega) (by omega) hG hS (lv_sub hl [0, 1, 2] rfl))
  have hz_yk : (0 : Int32).toInt = 0 := by decide
  have hz_ym : (0 : Int32).toInt = 0 := by decide
  exact loop (384 - 0 : Int).toNat 0 0 H locs ls (by omega) (by omega) (by omega) hG hS (lv_sub hl [0, 1, 2] rfl)

def uX3_isSet : List Cond := .code yX3_isSet cX3_isSet 2 (some .boolean) :: ([.fieldLink RX3 24 "RiverModel$Knobs" "manys" "[I"] ++ wsX30)
set_option maxHeartbeats 4000000 in
set_option maxRecDepth 100000 in
theorem s_X3_isSet (l : Launch) (D : va_G) (t : Nat → Nat) (cI cL cC : ClassId) (gC : Int32) (gE : Int32) (G : Nat) (gW : Nat → Int32) (gA : Nat → Int32) (a0 : Nat) (a1 : Int32) (k_a0 : t a0 = 7) : tM l yX3_isSet uX3_isSet 0 0 D (gF cI cL cC gC gE G gW gA) (gF cI cL cC gC gE G gW gA) t cI cL cC [.ref a0, .int a1] wr0 (pI (fun r => (r = 1 ∧ 0 ≤ a1.toInt ∧ a1.toInt ≤ 1) ∨ (r = 0 ∧ True))) := by
  refine tM.ofW (cc := cX3_isSet) (maxL := 2) (ret := (some .boolean)) (by decide) rfl (Nat.le_of_ble_eq_true rfl) ?_
  intro p e s m below meth c hx hb hr hml hown hts hlk H locs hG hK hE hS ls hl
  have hl : lv_has ls 2 [(0, .ref a0), (1, .int a1)] := hl
  have in3 : ∀ w ∈ wsX30, w ∈ uX3_isSet := fun w h => List.mem_cons_of_mem _ (List.mem_append_right _ h)
  refine lv_iload_n hx hb dX3_isSet_0 rfl (lv_at hl 1 rfl) ?_
  refine lv_if_lt (tgt := 22) hx hb dX3_isSet_1 (by decide) (fun c_1 => ?_) (fun c_1 => ?_)
  · skip
    have c_1 : a1.toInt < 0 := q_lt c_1
    refine lv_iconst (v := 0) hx hb dX3_isSet_22 (by decide) ?_
    exact ty_zret hx hb hr hlk rfl hG hS (Or.inr ⟨rfl, trivial⟩) dX3_isSet_23
  · skip
    have c_1 : 0 ≤ a1.toInt := q_nlt c_1
    refine lv_iload_n hx hb dX3_isSet_4 rfl (lv_at hl 1 rfl) ?_
    refine lv_iconst (v := 2) hx hb dX3_isSet_5 (by decide) ?_
    refine lv_icmp_ge (tgt := 22) hx hb dX3_isSet_6 (by decide) (fun c_2 => ?_) (fun c_2 => ?_)
    · skip
      have c_2 : 2 ≤ a1.toInt := q_le c_2
      refine lv_pc (pc2 := 22) rfl ?_
      refine lv_iconst (v := 0) hx hb dX3_isSet_22 (by decide) ?_
      exact ty_zret hx hb hr hlk rfl hG hS (Or.inr ⟨rfl, trivial⟩) dX3_isSet_23
    · skip
      have c_2 : a1.toInt < 2 := q_nle c_2
      refine lv_aload_n hx hb dX3_isSet_9 rfl (lv_at hl 0 rfl) ?_
      obtain ⟨r_3, r_5, r_7, r_9, r_11, at_13, h_4, h_6, h_8, h_10, h_12⟩ := gF_o7 hG k_a0
      refine va_get (D := D) (ci := 2) (v := .ref r_11) (C := RX3) (T := TX3) (N := 5) hx hb hts in3 hown hK (va_one at_13) 0 rfl rfl 4 (by decide) (hts (.fieldLink RX3 24 "RiverModel$Knobs" "manys" "[I") (List.mem_of_getElem? (i := 1) rfl)) (fun _ h9 => h9) rfl dX3_isSet_10 ?_
      refine lv_iload_n hx hb dX3_isSet_13 rfl (lv_at hl 1 rfl) ?_
      obtain ⟨f_14, at_15, h_16⟩ := gF_o28 hG h_12
      have b_17 : vp_in a1 2 := (q_in (by omega) (by omega))
      refine va_iald hx hb hK (va_one at_15) 0 0 rfl rfl b_17 dX3_isSet_14 ?_
      refine lv_topi (fun x_18 e_19 => ?_)
      refine lv_if_le (tgt := 22) hx hb dX3_isSet_15 (by decide) (fun c_20 => ?_) (fun c_20 => ?_)
      · skip
        have c_20 : x_18.toInt ≤ 0 := q_le c_20
        refine lv_iconst (v := 0) hx hb dX3_isSet_22 (by decide) ?_
        refine lv_pc (pc2 := 23) rfl ?_
        exact ty_zret hx hb hr hlk rfl hG hS (Or.inr ⟨rfl, trivial⟩) dX3_isSet_23
      · skip
        have c_20 : 0 < x_18.toInt := q_nle c_20
        refine lv_iconst (v := 1) hx hb dX3_isSet_18 (by decide) ?_
        refine lv_goto (tgt := 23) hx hb dX3_isSet_19 (by decide) ?_
        exact ty_zret hx hb hr hlk rfl hG hS (Or.inl ⟨rfl, by omega, by omega⟩) dX3_isSet_23

def uX3_unsetAll : List Cond := .code yX3_unsetAll cX3_unsetAll 1 none :: ([.fieldLink RX3 24 "RiverModel$Knobs" "manys" "[I", .methodLink RX3 27 yJ7_fill_53178, .static yJ7_fill_53178, .initialized RJ7, .code yJ7_fill_53178 cJ7_fill_53178 4 none] ++ wsX30)
set_option maxRecDepth 20000 in
theorem gu_X3_unsetAll_J7_fill_53178_27 : GoodIn uX3_unsetAll (va_wsS RX3 27 yJ7_fill_53178 wsJ7_fill_53178) := goodIn_r _ [2, 3, 4, 5] rfl (by decide +kernel)
set_option maxHeartbeats 4000000 in
set_option maxRecDepth 100000 in
theorem s_X3_unsetAll (l : Launch) (D : va_G) (t : Nat → Nat) (cI cL cC : ClassId) (gC : Int32) (gE : Int32) (G : Nat) (gW : Nat → Int32) (gA : Nat → Int32) (a0 : Nat) (k_a0 : t a0 = 7) : tM l yX3_unsetAll uX3_unsetAll 1 23 D (gF cI cL cC gC gE G gW gA) (gF cI cL cC gC gE G gW gA) t cI cL cC [.ref a0] wrKn (pV (True)) := by
  refine tM.ofW (cc := cX3_unsetAll) (maxL := 1) (ret := none) (by decide) rfl (Nat.le_of_ble_eq_true rfl) ?_
  intro p e s m below meth c hx hb hr hml hown hts hlk H locs hG hK hE hS ls hl
  have hl : lv_has ls 1 [(0, .ref a0)] := hl
  have in3 : ∀ w ∈ wsX30, w ∈ uX3_unsetAll := fun w h => List.mem_cons_of_mem _ (List.mem_append_right _ h)
  refine lv_aload_n hx hb dX3_unsetAll_0 rfl (lv_at hl 0 rfl) ?_
  obtain ⟨r_1, r_3, r_5, r_7, r_9, at_11, h_2, h_4, h_6, h_8, h_10⟩ := gF_o7 hG k_a0
  refine va_get (D := D) (ci := 2) (v := .ref r_9) (C := RX3) (T := TX3) (N := 5) hx hb hts in3 hown hK (va_one at_11) 0 rfl rfl 4 (by decide) (hts (.fieldLink RX3 24 "RiverModel$Knobs" "manys" "[I") (List.mem_of_getElem? (i := 1) rfl)) (fun _ h9 => h9) rfl dX3_unsetAll_1 ?_
  refine lv_iconst (v := 0) hx hb dX3_unsetAll_4 (by decide) ?_
  obtain ⟨f_12, at_13, h_14⟩ := gF_o28 hG h_10
  refine nw_row (W.runS (As := [.ref r_9, .int 0]) (rest := []) ⟨hx, hb, hml, hown, hts⟩ (c_fillI l D cI cL cC r_9 2 f_12 0 (by decide)) (va_cwS 2 hts gu_X3_unsetAll_J7_fill_53178_27 rfl rfl rfl (by decide +kernel) ⟨Nat.le_of_ble_eq_true rfl, Nat.le_of_ble_eq_true rfl⟩) (rP_S at_13 hE) rfl rfl hl.1 rfl (lv_room (Nat.le_of_ble_eq_true rfl)) dX3_unsetAll_5 ⟨Nat.le_of_ble_eq_true rfl, Nat.le_of_ble_eq_true rfl⟩) (fun H L ee hp at_20 hz_18 o_16 hL_19 => ?_)
  obtain ⟨g_15, rfl, hg_17⟩ := hp
  replace hG : tG D (gF cI cL cC gC gE G gW gA) t H := tG.set hG at_20 (by rw [h_10]; exact ⟨_, rfl, (gMany_all hg_17 (by decide))⟩) o_16
  replace hS := tF.row hS hz_18 o_16 hL_19 (by rw [h_10]; rfl)
  generalize _ ++ L = locs at hS ⊢
  have at_11 := va_at.keptK at_11 o_16 h_10 k_a0 rfl
  exact ty_vret hx hb hr hlk hG hS True.intro dX3_unsetAll_8

def uX3_set : List Cond := .code yX3_set cX3_set 7 none :: ([.initialized RX9, .static yX9_isNoKnob, .fieldLink RX3 9 "RiverModel$Knobs" "items" "[I", .fieldLink RX3 15 "RiverModel$Knobs" "numbers" "[I", .fieldLink RX3 18 "RiverModel$Knobs" "froms" "[I", .fieldLink RX3 21 "RiverModel$Knobs" "steps" "[I", .fieldLink RX3 24 "RiverModel$Knobs" "manys" "[I", .code yX9_isNoKnob cX9_isNoKnob 1 (some .boolean)] ++ wsX30)
set_option maxRecDepth 20000 in
theorem gu_X3_set_X9_isNoKnob_n : GoodIn uX3_set (uX9_isNoKnob) := goodIn_r _ [8] rfl (by decide +kernel)
set_option maxHeartbeats 4000000 in
set_option maxRecDepth 100000 in
theorem s_X3_set (l : Launch) (D : va_G) (t : Nat → Nat) (cI cL cC : ClassId) (gC : Int32) (gE : Int32) (G : Nat) (gW : Nat → Int32) (gA : Nat → Int32) (a0 : Nat) (a1 : Int32) (a2 : Int32) (a3 : Int32) (a4 : Int32) (a5 : Int32) (a6 : Int32) (h0m : 0 ≤ a6.toInt) (h16 : a6.toInt ≤ 16) (k_a0 : t a0 = 7) : tM l yX3_set uX3_set 1 20 D (gF cI cL cC gC gE G gW gA) (gF cI cL cC gC gE G gW gA) t cI cL cC [.ref a0, .int a1, .int a2, .int a3, .int a4, .int a5, .int a6] wrKn (pV (True)) := by
  refine tM.ofW (cc := cX3_set) (maxL := 7) (ret := none) (by decide) rfl (Nat.le_of_ble_eq_true rfl) ?_
  intro p e s m below meth c hx hb hr hml hown hts hlk H locs hG hK hE hS ls hl
  have hl : lv_has ls 7 [(0, .ref a0), (1, .int a1), (2, .int a2), (3, .int a3), (4, .int a4), (5, .int a5), (6, .int a6)] := hl
  have in3 : ∀ w ∈ wsX30, w ∈ uX3_set := fun w h => List.mem_cons_of_mem _ (List.mem_append_right _ h)
  refine lv_iload_n hx hb dX3_set_0 rfl (lv_at hl 1 rfl) ?_
  refine ty_calli (tRun (va_runSN (As := [.int a1]) (rest := []) ⟨hx, hb, hml, hown, hts⟩ (s_X9_isNoKnob l D t cI cL cC gC gE G gW gA a1 ) ⟨(va_cnB 1 hts gu_X3_set_X9_isNoKnob_n rfl rfl rfl (hE.2.1 _ (List.mem_of_getElem? (i := 19) rfl)) (hts (.initialized RX9) (List.mem_of_getElem? (i := 1) rfl)) (by decide +kernel) ⟨Nat.le_of_ble_eq_true rfl, Nat.le_of_ble_eq_true rfl⟩), (hts (.static yX9_isNoKnob) (List.mem_of_getElem? (i := 2) rfl)), trivial⟩ (tP_S hG hE) rfl rfl hl.1 rfl (lv_room (Nat.le_of_ble_eq_true rfl)) dX3_set_1 ⟨Nat.le_of_ble_eq_true rfl, Nat.le_of_ble_eq_true rfl⟩)) hS (fun k h => by simp [wr0] at h) (fun r_1 H locs hp_2 hG hS o_3 => ?_)
  rcases hp_2 with ⟨rfl, hc_75⟩ | ⟨rfl, hc_76, hc_77⟩
  · skip
    refine lv_if_eq (tgt := 8) hx hb dX3_set_4 (by decide) (fun q => absurd q (by decide)) (fun _ => ?_)
    exact ty_vret hx hb hr hlk hG hS True.intro dX3_set_7
  · skip
    refine lv_if_eq (tgt := 8) hx hb dX3_set_4 (by decide) (fun _ => ?_) (fun q => absurd (by decide) q)
    refine lv_aload_n hx hb dX3_set_8 rfl (lv_at hl 0 rfl) ?_
    obtain ⟨r_4, r_6, r_8, r_10, r_12, at_14, h_5, h_7, h_9, h_11, h_13⟩ := gF_o7 hG k_a0
    refine va_get (D := D) (ci := 2) (v := .ref r_4) (C := RX3) (T := TX3) (N := 5) hx hb hts in3 hown hK (va_one at_14) 0 rfl rfl 0 (by decide) (hts (.fieldLink RX3 9 "RiverModel$Knobs" "items" "[I") (List.mem_of_getElem? (i := 3) rfl)) (fun _ h9 => h9) rfl dX3_set_9 ?_
    refine lv_pc (pc2 := 12) rfl ?_
    refine lv_iload_n hx hb dX3_set_12 rfl (lv_at hl 1 rfl) ?_
    refine lv_iload_n hx hb dX3_set_13 rfl (lv_at hl 2 rfl) ?_
    obtain ⟨f_15, at_16⟩ := gF_o24 hG h_5
    have b_17 : vp_in a1 2 := (q_in (by omega) (by omega))
    refine ty_iast (F2 := (gF cI cL cC gC gE G gW gA)) hx hb hK hG hS 0 at_16 (by rw [h_5]; rfl) rfl b_17 (by rw [h_5]; exact ⟨_, rfl⟩) tFF dX3_set_14 (fun H locs hG hS at_18 o_19 => ?_)
    have at_14 := va_at.keptK at_14 o_19 h_5 k_a0 rfl
    refine lv_aload_n hx hb dX3_set_15 rfl (lv_at hl 0 rfl) ?_
    refine va_get (D := D) (ci := 2) (v := .ref r_6) (C := RX3) (T := TX3) (N := 5) hx hb hts in3 hown hK (va_one at_14) 0 rfl rfl 1 (by decide) (hts (.fieldLink RX3 15 "RiverModel$Knobs" "numbers" "[I") (List.mem_of_getElem? (i := 4) rfl)) (fun _ h9 => h9) rfl dX3_set_16 ?_
    refine lv_iload_n hx hb dX3_set_19 rfl (lv_at hl 1 rfl) ?_
    refine lv_iload_n hx hb dX3_set_20 rfl (lv_at hl 3 rfl) ?_
    obtain ⟨f_20, at_21⟩ := gF_o25 hG h_7
    have b_22 : vp_in a1 2 := (q_in (by omega) (by omega))
    refine ty_iast (F2 := (gF cI cL cC gC gE G gW gA)) hx hb hK hG hS 0 at_21 (by rw [h_7]; rfl) rfl b_22 (by rw [h_7]; exact ⟨_, rfl⟩) tFF dX3_set_21 (fun H locs hG hS at_23 o_24 => ?_)
    have at_14 := va_at.keptK at_14 o_24 h_7 k_a0 rfl
    refine lv_pc (pc2 := 22) rfl ?_
    refine lv_aload_n hx hb dX3_set_22 rfl (lv_at hl 0 rfl) ?_
    refine va_get (D := D) (ci := 2) (v := .ref r_8) (C := RX3) (T := TX3) (N := 5) hx hb hts in3 hown hK (va_one at_14) 0 rfl rfl 2 (by decide) (hts (.fieldLink RX3 18 "RiverModel$Knobs" "froms" "[I") (List.mem_of_getElem? (i := 5) rfl)) (fun _ h9 => h9) rfl dX3_set_23 ?_
    refine lv_iload_n hx hb dX3_set_26 rfl (lv_at hl 1 rfl) ?_
    refine lv_iload hx hb dX3_set_27 (lv_at hl 4 rfl) ?_
    obtain ⟨f_25, at_26⟩ := gF_o26 hG h_9
    have b_27 : vp_in a1 2 := (q_in (by omega) (by omega))
    refine ty_iast (F2 := (gF cI cL cC gC gE G gW gA)) hx hb hK hG hS 0 at_26 (by rw [h_9]; rfl) rfl b_27 (by rw [h_9]; exact ⟨_, rfl⟩) tFF dX3_set_29 (fun H locs hG hS at_28 o_29 => ?_)
    have at_14 := va_at.keptK at_14 o_29 h_9 k_a0 rfl
    refine lv_aload_n hx hb dX3_set_30 rfl (lv_at hl 0 rfl) ?_
    refine va_get (D := D) (ci := 2) (v := .ref r_10) (C := RX3) (T := TX3) (N := 5) hx hb hts in3 hown hK (va_one at_14) 0 rfl rfl 3 (by decide) (hts (.fieldLink RX3 21 "RiverModel$Knobs" "steps" "[I") (List.mem_of_getElem? (i := 6) rfl)) (fun _ h9 => h9) rfl dX3_set_31 ?_
    refine lv_iload_n hx hb dX3_set_34 rfl (lv_at hl 1 rfl) ?_
    refine lv_pc (pc2 := 35) rfl ?_
    refine lv_iload hx hb dX3_set_35 (lv_at hl 5 rfl) ?_
    obtain ⟨f_30, at_31⟩ := gF_o27 hG h_11
    have b_32 : vp_in a1 2 := (q_in (by omega) (by omega))
    refine ty_iast (F2 := (gF cI cL cC gC gE G gW gA)) hx hb hK hG hS 0 at_31 (by rw [h_11]; rfl) rfl b_32 (by rw [h_11]; exact ⟨_, rfl⟩) tFF dX3_set_37 (fun H locs hG hS at_33 o_34 => ?_)
    have at_14 := va_at.keptK at_14 o_34 h_11 k_a0 rfl
    refine lv_aload_n hx hb dX3_set_38 rfl (lv_at hl 0 rfl) ?_
    refine va_get (D := D) (ci := 2) (v := .ref r_12) (C := RX3) (T := TX3) (N := 5) hx hb hts in3 hown hK (va_one at_14) 0 rfl rfl 4 (by decide) (hts (.fieldLink RX3 24 "RiverModel$Knobs" "manys" "[I") (List.mem_of_getElem? (i := 7) rfl)) (fun _ h9 => h9) rfl dX3_set_39 ?_
    refine lv_iload_n hx hb dX3_set_42 rfl (lv_at hl 1 rfl) ?_
    refine lv_iload hx hb dX3_set_43 (lv_at hl 6 rfl) ?_
    obtain ⟨f_35, at_36, h_37⟩ := gF_o28 hG h_13
    have b_38 : vp_in a1 2 := (q_in (by omega) (by omega))
    refine ty_iast (F2 := (gF cI cL cC gC gE G gW gA)) hx hb hK hG hS 0 at_36 (by rw [h_13]; rfl) rfl b_38 (by rw [h_13]; exact ⟨_, rfl, gMany_upd h_37 (by omega)⟩) tFF dX3_set_45 (fun H locs hG hS at_39 o_40 => ?_)
    have at_14 := va_at.keptK at_14 o_40 h_13 k_a0 rfl
    exact ty_vret hx hb hr hlk hG hS True.intro dX3_set_46

def uX3_setMany : List Cond := .code yX3_setMany cX3_setMany 1 (some .int) :: ([.methodLink RX3 37 yX3_isSet, .instanceMethod yX3_isSet, .selects RX3 yX3_isSet yX3_isSet, .initialized RX3, .code yX3_isSet cX3_isSet 2 (some .boolean), .fieldLink RX3 24 "RiverModel$Knobs" "manys" "[I"] ++ wsX30)
set_option maxRecDepth 20000 in
theorem gu_X3_setMany_X3_isSet_37 : GoodIn uX3_setMany (wsV RX3 37 RX3 yX3_isSet uX3_isSet) := goodIn_r _ [1, 2, 3, 4, 5, 6, 7, 8, 9, 10, 11] rfl (by decide +kernel)
set_option maxHeartbeats 4000000 in
set_option maxRecDepth 100000 in
theorem s_X3_setMany (l : Launch) (D : va_G) (t : Nat → Nat) (cI cL cC : ClassId) (gC : Int32) (gE : Int32) (G : Nat) (gW : Nat → Int32) (gA : Nat → Int32) (a0 : Nat) (k_a0 : t a0 = 7) : tM l yX3_setMany uX3_setMany 1 21 D (gF cI cL cC gC gE G gW gA) (gF cI cL cC gC gE G gW gA) t cI cL cC [.ref a0] wr0 (pI (fun r => True)) := by
  refine tM.ofW (cc := cX3_setMany) (maxL := 1) (ret := (some .int)) (by decide) rfl (Nat.le_of_ble_eq_true rfl) ?_
  intro p e s m below meth c hx hb hr hml hown hts hlk H locs hG hK hE hS ls hl
  have hl : lv_has ls 1 [(0, .ref a0)] := hl
  skip
  refine lv_aload_n hx hb dX3_setMany_0 rfl (lv_at hl 0 rfl) ?_
  refine lv_iconst (v := 0) hx hb dX3_setMany_1 (by decide) ?_
  obtain ⟨r_1, r_3, r_5, r_7, r_9, at_11, h_2, h_4, h_6, h_8, h_10⟩ := gF_o7 hG k_a0
  refine ty_calli ((W.runV (As := [.int 0]) (rest := []) ⟨hx, hb, hml, hown, hts⟩ (s_X3_isSet l D t cI cL cC gC gE G gW gA a0 0 k_a0) (cwV 1 hts gu_X3_setMany_X3_isSet_37 rfl rfl rfl (by decide +kernel) ⟨Nat.le_of_ble_eq_true rfl, Nat.le_of_ble_eq_true rfl⟩) (tP_V hG hE at_11 rfl) rfl rfl hl.1 rfl (lv_room (Nat.le_of_ble_eq_true rfl)) dX3_setMany_2 ⟨Nat.le_of_ble_eq_true rfl, Nat.le_of_ble_eq_true rfl⟩)) hS (fun _ h => h) (fun r_12 H locs hp_13 hG hS o_14 => ?_)
  have at_11 := va_at.keptC at_11 o_14 k_a0 rfl
  rcases hp_13 with ⟨rfl, hc_78, hc_79⟩ | ⟨rfl, _⟩
  · skip
    refine lv_if_eq (tgt := 12) hx hb dX3_setMany_5 (by decide) (fun q => absurd q (by decide)) (fun _ => ?_)
    refine lv_iconst (v := 1) hx hb dX3_setMany_8 (by decide) ?_
    refine lv_goto (tgt := 13) hx hb dX3_setMany_9 (by decide) ?_
    refine lv_aload_n hx hb dX3_setMany_13 rfl (lv_at hl 0 rfl) ?_
    refine lv_pc (pc2 := 14) rfl ?_
    refine lv_iconst (v := 1) hx hb dX3_setMany_14 (by decide) ?_
    refine ty_calli ((W.runV (As := [.int 1]) (rest := [.int 1]) ⟨hx, hb, hml, hown, hts⟩ (s_X3_isSet l D t cI cL cC gC gE G gW gA a0 1 k_a0) (cwV 1 hts gu_X3_setMany_X3_isSet_37 rfl rfl rfl (by decide +kernel) ⟨Nat.le_of_ble_eq_true rfl, Nat.le_of_ble_eq_true rfl⟩) (tP_V hG hE at_11 rfl) rfl rfl hl.1 rfl (lv_room (Nat.le_of_ble_eq_true rfl)) dX3_setMany_15 ⟨Nat.le_of_ble_eq_true rfl, Nat.le_of_ble_eq_true rfl⟩)) hS (fun _ h => h) (fun r_15 H locs hp_16 hG hS o_17 => ?_)
    have at_11 := va_at.keptC at_11 o_17 k_a0 rfl
    rcases hp_16 with ⟨rfl, hc_80, hc_81⟩ | ⟨rfl, _⟩
    · skip
      refine lv_if_eq (tgt := 25) hx hb dX3_setMany_18 (by decide) (fun q => absurd q (by decide)) (fun _ => ?_)
      refine lv_iconst (v := 1) hx hb dX3_setMany_21 (by decide) ?_
      refine lv_goto (tgt := 26) hx hb dX3_setMany_22 (by decide) ?_
      refine lv_iadd hx hb dX3_setMany_26 ?_
      refine lv_seti (y := 2) (by decide) ?_
      exact ty_iret hx hb hr hlk hG hS True.intro dX3_setMany_27
    · skip
      refine lv_if_eq (tgt := 25) hx hb dX3_setMany_18 (by decide) (fun _ => ?_) (fun q => absurd (by decide) q)
      refine lv_pc (pc2 := 25) rfl ?_
      refine lv_iconst (v := 0) hx hb dX3_setMany_25 (by decide) ?_
      refine lv_iadd hx hb dX3_setMany_26 ?_
      refine lv_seti (y := 1) (by decide) ?_
      exact ty_iret hx hb hr hlk hG hS True.intro dX3_setMany_27
  · skip
    refine lv_if_eq (tgt := 12) hx hb dX3_setMany_5 (by decide) (fun _ => ?_) (fun q => absurd (by decide) q)
    refine lv_iconst (v := 0) hx hb dX3_setMany_12 (by decide) ?_
    refine lv_aload_n hx hb dX3_setMany_13 rfl (lv_at hl 0 rfl) ?_
    refine lv_iconst (v := 1) hx hb dX3_setMany_14 (by decide) ?_
    refine ty_calli ((W.runV (As := [.int 1]) (rest := [.int 0]) ⟨hx, hb, hml, hown, hts⟩ (s_X3_isSet l D t cI cL cC gC gE G gW gA a0 1 k_a0) (cwV 1 hts gu_X3_setMany_X3_isSet_37 rfl rfl rfl (by decide +kernel) ⟨Nat.le_of_ble_eq_true rfl, Nat.le_of_ble_eq_true rfl⟩) (tP_V hG hE at_11 rfl) rfl rfl hl.1 rfl (lv_room (Nat.le_of_ble_eq_true rfl)) dX3_setMany_15 ⟨Nat.le_of_ble_eq_true rfl, Nat.le_of_ble_eq_true rfl⟩)) hS (fun _ h => h) (fun r_18 H locs hp_19 hG hS o_20 => ?_)
    have at_11 := va_at.keptC at_11 o_20 k_a0 rfl
    rcases hp_19 with ⟨rfl, hc_82, hc_83⟩ | ⟨rfl, _⟩
    · skip
      refine lv_pc (pc2 := 18) rfl ?_
      refine lv_if_eq (tgt := 25) hx hb dX3_setMany_18 (by decide) (fun q => absurd q (by decide)) (fun _ => ?_)
      refine lv_iconst (v := 1) hx hb dX3_setMany_21 (by decide) ?_
      refine lv_goto (tgt := 26) hx hb dX3_setMany_22 (by decide) ?_
      refine lv_iadd hx hb dX3_setMany_26 ?_
      refine lv_seti (y := 1) (by decide) ?_
      exact ty_iret hx hb hr hlk hG hS True.intro dX3_setMany_27
    · skip
      refine lv_if_eq (tgt := 25) hx hb dX3_setMany_18 (by decide) (fun _ => ?_) (fun q => absurd (by decide) q)
      refine lv_iconst (v := 0) hx hb dX3_setMany_25 (by decide) ?_
      refine lv_iadd hx hb dX3_setMany_26 ?_
      refine lv_seti (y := 0) (by decide) ?_
      refine lv_pc (pc2 := 27) rfl ?_
      exact ty_iret hx hb hr hlk hG hS True.intro dX3_setMany_27

def uX3_pointsOf : List Cond := .code yX3_pointsOf cX3_pointsOf 2 (some .int) :: ([.methodLink RX3 37 yX3_isSet, .instanceMethod yX3_isSet, .selects RX3 yX3_isSet yX3_isSet, .initialized RX3, .fieldLink RX3 24 "RiverModel$Knobs" "manys" "[I", .code yX3_isSet cX3_isSet 2 (some .boolean)] ++ wsX30)
set_option maxRecDepth 20000 in
theorem gu_X3_pointsOf_X3_isSet_37 : GoodIn uX3_pointsOf (wsV RX3 37 RX3 yX3_isSet uX3_isSet) := goodIn_r _ [1, 2, 3, 4, 6, 5, 7, 8, 9, 10, 11] rfl (by decide +kernel)
set_option maxHeartbeats 4000000 in
set_option maxRecDepth 100000 in
theorem s_X3_pointsOf (l : Launch) (D : va_G) (t : Nat → Nat) (cI cL cC : ClassId) (gC : Int32) (gE : Int32) (G : Nat) (gW : Nat → Int32) (gA : Nat → Int32) (a0 : Nat) (a1 : Int32) (k_a0 : t a0 = 7) : tM l yX3_pointsOf uX3_pointsOf 1 21 D (gF cI cL cC gC gE G gW gA) (gF cI cL cC gC gE G gW gA) t cI cL cC [.ref a0, .int a1] wr0 (pI (fun r => 0 ≤ r.toInt ∧ r.toInt ≤ 16)) := by
  refine tM.ofW (cc := cX3_pointsOf) (maxL := 2) (ret := (some .int)) (by decide) rfl (Nat.le_of_ble_eq_true rfl) ?_
  intro p e s m below meth c hx hb hr hml hown hts hlk H locs hG hK hE hS ls hl
  have hl : lv_has ls 2 [(0, .ref a0), (1, .int a1)] := hl
  have in3 : ∀ w ∈ wsX30, w ∈ uX3_pointsOf := fun w h => List.mem_cons_of_mem _ (List.mem_append_right _ h)
  refine lv_aload_n hx hb dX3_pointsOf_0 rfl (lv_at hl 0 rfl) ?_
  refine lv_iload_n hx hb dX3_pointsOf_1 rfl (lv_at hl 1 rfl) ?_
  obtain ⟨r_1, r_3, r_5, r_7, r_9, at_11, h_2, h_4, h_6, h_8, h_10⟩ := gF_o7 hG k_a0
  refine ty_calli ((W.runV (As := [.int a1]) (rest := []) ⟨hx, hb, hml, hown, hts⟩ (s_X3_isSet l D t cI cL cC gC gE G gW gA a0 a1 k_a0) (cwV 1 hts gu_X3_pointsOf_X3_isSet_37 rfl rfl rfl (by decide +kernel) ⟨Nat.le_of_ble_eq_true rfl, Nat.le_of_ble_eq_true rfl⟩) (tP_V hG hE at_11 rfl) rfl rfl hl.1 rfl (lv_room (Nat.le_of_ble_eq_true rfl)) dX3_pointsOf_2 ⟨Nat.le_of_ble_eq_true rfl, Nat.le_of_ble_eq_true rfl⟩)) hS (fun _ h => h) (fun r_12 H locs hp_13 hG hS o_14 => ?_)
  have at_11 := va_at.keptC at_11 o_14 k_a0 rfl
  rcases hp_13 with ⟨rfl, hc_84, hc_85⟩ | ⟨rfl, _⟩
  · skip
    refine lv_if_eq (tgt := 17) hx hb dX3_pointsOf_5 (by decide) (fun q => absurd q (by decide)) (fun _ => ?_)
    refine lv_aload_n hx hb dX3_pointsOf_8 rfl (lv_at hl 0 rfl) ?_
    refine va_get (D := D) (ci := 2) (v := .ref r_9) (C := RX3) (T := TX3) (N := 5) hx hb hts in3 hown hK (va_one at_11) 0 rfl rfl 4 (by decide) (hts (.fieldLink RX3 24 "RiverModel$Knobs" "manys" "[I") (List.mem_of_getElem? (i := 5) rfl)) (fun _ h9 => h9) rfl dX3_pointsOf_9 ?_
    refine lv_iload_n hx hb dX3_pointsOf_12 rfl (lv_at hl 1 rfl) ?_
    refine lv_pc (pc2 := 13) rfl ?_
    obtain ⟨f_15, at_16, h_17⟩ := gF_o28 hG h_10
    have b_18 : vp_in a1 2 := (q_in (by omega) (by omega))
    refine va_iald hx hb hK (va_one at_16) 0 0 rfl rfl b_18 dX3_pointsOf_13 ?_
    refine lv_topi (fun x_19 e_20 => ?_)
    have g_x_19 : 0 ≤ x_19.toInt ∧ x_19.toInt ≤ 16 := by rw [e_20]; exact h_17 _ (q_inlt b_18)
    refine lv_goto (tgt := 18) hx hb dX3_pointsOf_14 (by decide) ?_
    exact ty_iret hx hb hr hlk hG hS (by omega) dX3_pointsOf_18
  · skip
    refine lv_if_eq (tgt := 17) hx hb dX3_pointsOf_5 (by decide) (fun _ => ?_) (fun q => absurd (by decide) q)
    refine lv_iconst (v := 1) hx hb dX3_pointsOf_17 (by decide) ?_
    exact ty_iret hx hb hr hlk hG hS (by decide) dX3_pointsOf_18

def uX3_points : List Cond := .code yX3_points cX3_points 1 (some .int) :: ([.methodLink RX3 40 yX3_pointsOf, .instanceMethod yX3_pointsOf, .selects RX3 yX3_pointsOf yX3_pointsOf, .initialized RX3, .code yX3_pointsOf cX3_pointsOf 2 (some .int), .methodLink RX3 37 yX3_isSet, .instanceMethod yX3_isSet, .selects RX3 yX3_isSet yX3_isSet, .fieldLink RX3 24 "RiverModel$Knobs" "manys" "[I", .code yX3_isSet cX3_isSet 2 (some .boolean)] ++ wsX30)
set_option maxRecDepth 20000 in
theorem gu_X3_points_X3_pointsOf_40 : GoodIn uX3_points (wsV RX3 40 RX3 yX3_pointsOf uX3_pointsOf) := goodIn_r _ [1, 2, 3, 4, 5, 6, 7, 8, 4, 9, 10, 11, 12, 13, 14, 15] rfl (by decide +kernel)
set_option maxHeartbeats 4000000 in
set_option maxRecDepth 100000 in
theorem s_X3_points (l : Launch) (D : va_G) (t : Nat → Nat) (cI cL cC : ClassId) (gC : Int32) (gE : Int32) (G : Nat) (gW : Nat → Int32) (gA : Nat → Int32) (a0 : Nat) (k_a0 : t a0 = 7) : tM l yX3_points uX3_points 2 42 D (gF cI cL cC gC gE G gW gA) (gF cI cL cC gC gE G gW gA) t cI cL cC [.ref a0] wr0 (pI (fun r => 0 ≤ r.toInt ∧ r.toInt ≤ 256)) := by
  refine tM.ofW (cc := cX3_points) (maxL := 1) (ret := (some .int)) (by decide) rfl (Nat.le_of_ble_eq_true rfl) ?_
  intro p e s m below meth c hx hb hr hml hown hts hlk H locs hG hK hE hS ls hl
  have hl : lv_has ls 1 [(0, .ref a0)] := hl
  skip
  refine lv_aload_n hx hb dX3_points_0 rfl (lv_at hl 0 rfl) ?_
  refine lv_iconst (v := 0) hx hb dX3_points_1 (by decide) ?_
  obtain ⟨r_1, r_3, r_5, r_7, r_9, at_11, h_2, h_4, h_6, h_8, h_10⟩ := gF_o7 hG k_a0
  refine ty_calli ((W.runV (As := [.int 0]) (rest := []) ⟨hx, hb, hml, hown, hts⟩ (s_X3_pointsOf l D t cI cL cC gC gE G gW gA a0 0 k_a0) (cwV 1 hts gu_X3_points_X3_pointsOf_40 rfl rfl rfl (by decide +kernel) ⟨Nat.le_of_ble_eq_true rfl, Nat.le_of_ble_eq_true rfl⟩) (tP_V hG hE at_11 rfl) rfl rfl hl.1 rfl (lv_room (Nat.le_of_ble_eq_true rfl)) dX3_points_2 ⟨Nat.le_of_ble_eq_true rfl, Nat.le_of_ble_eq_true rfl⟩)) hS (fun _ h => h) (fun r_12 H locs hp_13 hG hS o_14 => ?_)
  have at_11 := va_at.keptC at_11 o_14 k_a0 rfl
  have hp_13 := hp_13
  refine lv_aload_n hx hb dX3_points_5 rfl (lv_at hl 0 rfl) ?_
  refine lv_iconst (v := 1) hx hb dX3_points_6 (by decide) ?_
  refine ty_calli ((W.runV (As := [.int 1]) (rest := [.int r_12]) ⟨hx, hb, hml, hown, hts⟩ (s_X3_pointsOf l D t cI cL cC gC gE G gW gA a0 1 k_a0) (cwV 1 hts gu_X3_points_X3_pointsOf_40 rfl rfl rfl (by decide +kernel) ⟨Nat.le_of_ble_eq_true rfl, Nat.le_of_ble_eq_true rfl⟩) (tP_V hG hE at_11 rfl) rfl rfl hl.1 rfl (lv_room (Nat.le_of_ble_eq_true rfl)) dX3_points_7 ⟨Nat.le_of_ble_eq_true rfl, Nat.le_of_ble_eq_true rfl⟩)) hS (fun _ h => h) (fun r_15 H locs hp_16 hG hS o_17 => ?_)
  have at_11 := va_at.keptC at_11 o_17 k_a0 rfl
  have hp_16 := hp_16
  refine lv_imul hx hb dX3_points_10 ?_
  refine lv_topi (fun x_18 e_19 => ?_)
  have i_x_18 : 0 ≤ x_18.toInt ∧ x_18.toInt ≤ 256 := by rw [e_19]; exact q_mul16 (by omega) (by omega) (by omega) (by omega)
  refine lv_pc (pc2 := 11) rfl ?_
  exact ty_iret hx hb hr hlk hG hS (by omega) dX3_points_11

def uX3_numberAt : List Cond := .code yX3_numberAt cX3_numberAt 4 (some .int) :: ([.initialized RX9, .static yX9_isNoKnob, .methodLink RX3 40 yX3_pointsOf, .instanceMethod yX3_pointsOf, .selects RX3 yX3_pointsOf yX3_pointsOf, .initialized RX3, .methodLink RX3 44 Lib.Math.max.name, .static Lib.Math.max.name, .initialized "java/lang/Math", .code Lib.Math.max.name Lib.Math.max.code 2 (some .int), .fieldLink RX3 18 "RiverModel$Knobs" "froms" "[I", .fieldLink RX3 21 "RiverModel$Knobs" "steps" "[I", .code yX9_isNoKnob cX9_isNoKnob 1 (some .boolean), .code yX3_pointsOf cX3_pointsOf 2 (some .int), .methodLink RX3 37 yX3_isSet, .instanceMethod yX3_isSet, .selects RX3 yX3_isSet yX3_isSet, .fieldLink RX3 24 "RiverModel$Knobs" "manys" "[I", .code yX3_isSet cX3_isSet 2 (some .boolean)] ++ wsX30)
set_option maxRecDepth 20000 in
theorem gu_X3_numberAt_X9_isNoKnob_n : GoodIn uX3_numberAt (uX9_isNoKnob) := goodIn_r _ [13] rfl (by decide +kernel)
set_option maxRecDepth 20000 in
theorem gu_X3_numberAt_X3_pointsOf_40 : GoodIn uX3_numberAt (wsV RX3 40 RX3 yX3_pointsOf uX3_pointsOf) := goodIn_r _ [3, 4, 5, 6, 14, 15, 16, 17, 6, 18, 19, 20, 21, 22, 23, 24] rfl (by decide +kernel)
set_option maxHeartbeats 4000000 in
set_option maxRecDepth 100000 in
theorem s_X3_numberAt (l : Launch) (D : va_G) (t : Nat → Nat) (cI cL cC : ClassId) (gC : Int32) (gE : Int32) (G : Nat) (gW : Nat → Int32) (gA : Nat → Int32) (a0 : Nat) (a1 : Int32) (a2 : Int32) (k_a0 : t a0 = 7) : tM l yX3_numberAt uX3_numberAt 2 42 D (gF cI cL cC gC gE G gW gA) (gF cI cL cC gC gE G gW gA) t cI cL cC [.ref a0, .int a1, .int a2] wr0 (pI (fun r => True)) := by
  refine tM.ofW (cc := cX3_numberAt) (maxL := 4) (ret := (some .int)) (by decide) rfl (Nat.le_of_ble_eq_true rfl) ?_
  intro p e s m below meth c hx hb hr hml hown hts hlk H locs hG hK hE hS ls hl
  have hl : lv_has ls 4 [(0, .ref a0), (1, .int a1), (2, .int a2)] := hl
  have in3 : ∀ w ∈ wsX30, w ∈ uX3_numberAt := fun w h => List.mem_cons_of_mem _ (List.mem_append_right _ h)
  refine lv_iload_n hx hb dX3_numberAt_0 rfl (lv_at hl 1 rfl) ?_
  refine ty_calli (tRun (va_runSN (As := [.int a1]) (rest := []) ⟨hx, hb, hml, hown, hts⟩ (s_X9_isNoKnob l D t cI cL cC gC gE G gW gA a1 ) ⟨(va_cnB 1 hts gu_X3_numberAt_X9_isNoKnob_n rfl rfl rfl (hE.2.1 _ (List.mem_of_getElem? (i := 19) rfl)) (hts (.initialized RX9) (List.mem_of_getElem? (i := 1) rfl)) (by decide +kernel) ⟨Nat.le_of_ble_eq_true rfl, Nat.le_of_ble_eq_true rfl⟩), (hts (.static yX9_isNoKnob) (List.mem_of_getElem? (i := 2) rfl)), trivial⟩ (tP_S hG hE) rfl rfl hl.1 rfl (lv_room (Nat.le_of_ble_eq_true rfl)) dX3_numberAt_1 ⟨Nat.le_of_ble_eq_true rfl, Nat.le_of_ble_eq_true rfl⟩)) hS (fun _ h => h) (fun r_1 H locs hp_2 hG hS o_3 => ?_)
  rcases hp_2 with ⟨rfl, hc_86⟩ | ⟨rfl, hc_87, hc_88⟩
  · skip
    refine lv_if_eq (tgt := 10) hx hb dX3_numberAt_4 (by decide) (fun q => absurd q (by decide)) (fun _ => ?_)
    refine lv_bipush (v := (-4)) hx hb dX3_numberAt_7 (by decide) ?_
    exact ty_iret hx hb hr hlk hG hS True.intro dX3_numberAt_9
  · skip
    refine lv_if_eq (tgt := 10) hx hb dX3_numberAt_4 (by decide) (fun _ => ?_) (fun q => absurd (by decide) q)
    refine lv_iconst (v := 1) hx hb dX3_numberAt_10 (by decide) ?_
    refine lv_pc (pc2 := 11) rfl ?_
    refine lv_aload_n hx hb dX3_numberAt_11 rfl (lv_at hl 0 rfl) ?_
    refine lv_iconst (v := 1) hx hb dX3_numberAt_12 (by decide) ?_
    obtain ⟨r_4, r_6, r_8, r_10, r_12, at_14, h_5, h_7, h_9, h_11, h_13⟩ := gF_o7 hG k_a0
    refine ty_calli ((W.runV (As := [.int 1]) (rest := [.int 1]) ⟨hx, hb, hml, hown, hts⟩ (s_X3_pointsOf l D t cI cL cC gC gE G gW gA a0 1 k_a0) (cwV 1 hts gu_X3_numberAt_X3_pointsOf_40 rfl rfl rfl (by decide +kernel) ⟨Nat.le_of_ble_eq_true rfl, Nat.le_of_ble_eq_true rfl⟩) (tP_V hG hE at_14 rfl) rfl rfl hl.1 rfl (lv_room (Nat.le_of_ble_eq_true rfl)) dX3_numberAt_13 ⟨Nat.le_of_ble_eq_true rfl, Nat.le_of_ble_eq_true rfl⟩)) hS (fun _ h => h) (fun r_15 H locs hp_16 hG hS o_17 => ?_)
    have at_14 := va_at.keptC at_14 o_17 k_a0 rfl
    have hp_16 := hp_16
    refine va_mmax hx hb (by rw [hml]; exact hl.1.symm) hown (hts (.methodLink RX3 44 Lib.Math.max.name) (List.mem_of_getElem? (i := 7) rfl)) (hts (.static Lib.Math.max.name) (List.mem_of_getElem? (i := 8) rfl)) (hts (.initialized "java/lang/Math") (List.mem_of_getElem? (i := 9) rfl)) (hts (.code Lib.Math.max.name Lib.Math.max.code 2 (some .int)) (List.mem_of_getElem? (i := 10) rfl)) (Nat.le_of_ble_eq_true rfl) (Nat.le_of_ble_eq_true rfl) (Nat.zero_le _) (Nat.zero_le _) dX3_numberAt_16 ?_
    refine lv_topi (fun x_18 e_19 => ?_)
    have m_x_18 : 1 ≤ x_18.toInt ∧ r_15.toInt ≤ x_18.toInt ∧ (x_18.toInt = 1 ∨ x_18.toInt = r_15.toInt) := by rw [e_19]; exact q_max _ _
    refine lv_istore_n (lv' := [(3, .int x_18), (0, .ref a0), (1, .int a1), (2, .int a2)]) hx hb dX3_numberAt_19 rfl hl (by decide) rfl (fun ls hl => ?_)
    refine lv_aload_n hx hb dX3_numberAt_20 rfl (lv_at hl 1 rfl) ?_
    refine va_get (D := D) (ci := 2) (v := .ref r_8) (C := RX3) (T := TX3) (N := 5) hx hb hts in3 hown hK (va_one at_14) 0 rfl rfl 2 (by decide) (hts (.fieldLink RX3 18 "RiverModel$Knobs" "froms" "[I") (List.mem_of_getElem? (i := 11) rfl)) (fun _ h9 => h9) rfl dX3_numberAt_21 ?_
    refine lv_iload_n hx hb dX3_numberAt_24 rfl (lv_at hl 2 rfl) ?_
    refine lv_pc (pc2 := 25) rfl ?_
    obtain ⟨f_20, at_21⟩ := gF_o26 hG h_9
    have b_22 : vp_in a1 2 := (q_in (by omega) (by omega))
    refine va_iald hx hb hK (va_one at_21) 0 0 rfl rfl b_22 dX3_numberAt_25 ?_
    refine lv_topi (fun x_23 e_24 => ?_)
    refine lv_aload_n hx hb dX3_numberAt_26 rfl (lv_at hl 1 rfl) ?_
    refine va_get (D := D) (ci := 2) (v := .ref r_10) (C := RX3) (T := TX3) (N := 5) hx hb hts in3 hown hK (va_one at_14) 0 rfl rfl 3 (by decide) (hts (.fieldLink RX3 21 "RiverModel$Knobs" "steps" "[I") (List.mem_of_getElem? (i := 12) rfl)) (fun _ h9 => h9) rfl dX3_numberAt_27 ?_
    refine lv_iload_n hx hb dX3_numberAt_30 rfl (lv_at hl 2 rfl) ?_
    obtain ⟨f_25, at_26⟩ := gF_o27 hG h_11
    have b_27 : vp_in a1 2 := (q_in (by omega) (by omega))
    refine va_iald hx hb hK (va_one at_26) 0 0 rfl rfl b_27 dX3_numberAt_31 ?_
    refine lv_topi (fun x_28 e_29 => ?_)
    refine lv_iload_n hx hb dX3_numberAt_32 rfl (lv_at hl 2 rfl) ?_
    refine lv_if_ne (tgt := 42) hx hb dX3_numberAt_33 (by decide) (fun c_30 => ?_) (fun c_30 => ?_)
    · skip
      have c_30 : a1.toInt ≠ 0 := q_ne c_30
      refine lv_iload_n hx hb dX3_numberAt_42 rfl (lv_at hl 3 rfl) ?_
      refine lv_pc (pc2 := 43) rfl ?_
      refine lv_iload_n hx hb dX3_numberAt_43 rfl (lv_at hl 0 rfl) ?_
      refine lv_irem hx hb dX3_numberAt_44 (q_nz (by omega)) ?_
      refine lv_topi (fun x_31 e_32 => ?_)
      refine lv_imul hx hb dX3_numberAt_45 ?_
      refine lv_topi (fun x_33 e_34 => ?_)
      refine lv_iadd hx hb dX3_numberAt_46 ?_
      refine lv_topi (fun x_35 e_36 => ?_)
      exact ty_iret hx hb hr hlk hG hS True.intro dX3_numberAt_47
    · skip
      have c_30 : a1.toInt = 0 := q_eq c_30
      refine lv_iload_n hx hb dX3_numberAt_36 rfl (lv_at hl 3 rfl) ?_
      refine lv_iload_n hx hb dX3_numberAt_37 rfl (lv_at hl 0 rfl) ?_
      refine lv_idiv hx hb dX3_numberAt_38 (q_nz (by omega)) ?_
      refine lv_topi (fun x_37 e_38 => ?_)
      refine lv_pc (pc2 := 39) rfl ?_
      refine lv_goto (tgt := 45) hx hb dX3_numberAt_39 (by decide) ?_
      refine lv_imul hx hb dX3_numberAt_45 ?_
      refine lv_topi (fun x_39 e_40 => ?_)
      refine lv_iadd hx hb dX3_numberAt_46 ?_
      refine lv_topi (fun x_41 e_42 => ?_)
      exact ty_iret hx hb hr hlk hG hS True.intro dX3_numberAt_47

def uX3_lay : List Cond := .code yX3_lay cX3_lay 4 (some .boolean) :: ([.methodLink RX3 37 yX3_isSet, .instanceMethod yX3_isSet, .selects RX3 yX3_isSet yX3_isSet, .initialized RX3, .fieldLink RX3 9 "RiverModel$Knobs" "items" "[I", .methodLink RX3 63 yX4_isItemAsTold, .instanceMethod yX4_isItemAsTold, .selects RX4 yX4_isItemAsTold yX4_isItemAsTold, .initialized RX4, .fieldLink RX3 15 "RiverModel$Knobs" "numbers" "[I", .methodLink RX3 50 yX4_hasNumber, .instanceMethod yX4_hasNumber, .selects RX4 yX4_hasNumber yX4_hasNumber, .methodLink RX3 56 yX3_numberAt, .instanceMethod yX3_numberAt, .selects RX3 yX3_numberAt yX3_numberAt, .methodLink RX3 59 yX4_putCell, .instanceMethod yX4_putCell, .selects RX4 yX4_putCell yX4_putCell, .code yX3_isSet cX3_isSet 2 (some .boolean), .fieldLink RX3 24 "RiverModel$Knobs" "manys" "[I", .code yX4_isItemAsTold cX4_isItemAsTold 2 (some .boolean), .methodLink RX4 73 yX4_cell, .instanceMethod yX4_cell, .selects RX4 yX4_cell yX4_cell, .methodLink RX4 77 yX2_areNumbersAsTold, .static yX2_areNumbersAsTold, .initialized RX2, .code yX4_cell cX4_cell 3 (some .int), .fieldLink RX4 9 "RiverModel$Model" "cells" "[I", .code yX2_areNumbersAsTold cX2_areNumbersAsTold 4 (some .boolean), .methodLink RX2 10 yX2_isUpTo, .static yX2_isUpTo, .constant RX2 9 (1000000), .code yX2_isUpTo cX2_isUpTo 2 (some .boolean), .code yX4_hasNumber cX4_hasNumber 3 (some .boolean), .methodLink RX4 86 yX2_numbersOf, .static yX2_numbersOf, .code yX2_numbersOf cX2_numbersOf 1 (some .int), .code yX3_numberAt cX3_numberAt 4 (some .int), .initialized RX9, .static yX9_isNoKnob, .methodLink RX3 40 yX3_pointsOf, .instanceMethod yX3_pointsOf, .selects RX3 yX3_pointsOf yX3_pointsOf, .methodLink RX3 44 Lib.Math.max.name, .static Lib.Math.max.name, .initialized "java/lang/Math", .code Lib.Math.max.name Lib.Math.max.code 2 (some .int), .fieldLink RX3 18 "RiverModel$Knobs" "froms" "[I", .fieldLink RX3 21 "RiverModel$Knobs" "steps" "[I", .code yX9_isNoKnob cX9_isNoKnob 1 (some .boolean), .code yX3_pointsOf cX3_pointsOf 2 (some .int), .code yX4_putCell cX4_putCell 4 none, .static yX9_isNoItem, .static yX9_isOutside, .code yX9_isNoItem cX9_isNoItem 1 (some .boolean), .code yX9_isOutside cX9_isOutside 3 (some .boolean)] ++ wsX30 ++ wsX40)
set_option maxRecDepth 20000 in
theorem gu_X3_lay_X3_isSet_37 : GoodIn uX3_lay (wsV RX3 37 RX3 yX3_isSet uX3_isSet) := goodIn_r _ [1, 2, 3, 4, 20, 21, 59, 60, 61, 62, 63] rfl (by decide +kernel)
set_option maxRecDepth 20000 in
theorem gu_X3_lay_X4_isItemAsTold_63 : GoodIn uX3_lay (wsV RX3 63 RX4 yX4_isItemAsTold uX4_isItemAsTold) := goodIn_r _ [6, 7, 8, 9, 22, 23, 24, 25, 9, 26, 27, 28, 29, 30, 31, 32, 33, 34, 35, 64, 65, 66, 67, 68, 69] rfl (by decide +kernel)
set_option maxRecDepth 20000 in
theorem gu_X3_lay_X4_hasNumber_50 : GoodIn uX3_lay (wsV RX3 50 RX4 yX4_hasNumber uX4_hasNumber) := goodIn_r _ [11, 12, 13, 9, 36, 23, 24, 25, 9, 37, 38, 28, 29, 30, 39, 64, 65, 66, 67, 68, 69] rfl (by decide +kernel)
set_option maxRecDepth 20000 in
theorem gu_X3_lay_X3_numberAt_56 : GoodIn uX3_lay (wsV RX3 56 RX3 yX3_numberAt uX3_numberAt) := goodIn_r _ [14, 15, 16, 4, 40, 41, 42, 43, 44, 45, 4, 46, 47, 48, 49, 50, 51, 52, 53, 1, 2, 3, 21, 20, 59, 60, 61, 62, 63] rfl (by decide +kernel)
set_option maxRecDepth 20000 in
theorem gu_X3_lay_X4_putCell_59 : GoodIn uX3_lay (wsV RX3 59 RX4 yX4_putCell uX4_putCell) := goodIn_r _ [17, 18, 19, 9, 54, 41, 55, 56, 30, 57, 58, 64, 65, 66, 67, 68, 69] rfl (by decide +kernel)
set_option maxHeartbeats 4000000 in
set_option maxRecDepth 100000 in
theorem s_X3_lay (l : Launch) (D : va_G) (t : Nat → Nat) (cI cL cC : ClassId) (gC : Int32) (gE : Int32) (G : Nat) (gW : Nat → Int32) (gA : Nat → Int32) (a0 : Nat) (a1 : Int32) (a2 : Nat) (k_a0 : t a0 = 7) (k_a2 : t a2 = 3) : tM l yX3_lay uX3_lay 3 65 D (gF cI cL cC gC gE G gW gA) (gF cI cL cC gC gE G gW gA) t cI cL cC [.ref a0, .int a1, .ref a2] wrMo (pI (fun r => r = 0 ∨ r = 1)) := by
  refine tM.ofW (cc := cX3_lay) (maxL := 4) (ret := (some .boolean)) (by decide) rfl (Nat.le_of_ble_eq_true rfl) ?_
  intro p e s m below meth c hx hb hr hml hown hts hlk H locs hG hK hE hS ls hl
  have hl : lv_has ls 4 [(0, .ref a0), (1, .int a1), (2, .ref a2)] := hl
  have in3 : ∀ w ∈ wsX30, w ∈ uX3_lay := fun w h => List.mem_cons_of_mem _ (List.mem_append_left _ (List.mem_append_right _ h))
  refine lv_iconst (v := 0) hx hb dX3_lay_0 (by decide) ?_
  refine lv_istore_n (lv' := [(3, .int 0), (0, .ref a0), (1, .int a1), (2, .ref a2)]) hx hb dX3_lay_1 rfl hl (by decide) rfl (fun ls hl => ?_)
  refine lv_pc (pc2 := 2) rfl ?_
  refine lp_gen (fun WW hWW => ?_)
  have kx : ∀ (yk : Int32) (H1 : Heap) (locs1 : List Loc) (ls1 : Array Slot), 0 ≤ yk.toInt → yk.toInt ≤ 2 → tG D (gF cI cL cC gC gE G gW gA) t H1 → tF t wrMo s.heap H1 locs1 → lv_has ls1 4 [(3, .int yk), (0, .ref a0), (1, .int a1), (2, .ref a2)] → WW H1 locs1 (F0 m 66 ls1 []) := by
    intro yk H locs ls v0 v1 hG hS hl
    refine (hWW _ _ _).mpr ?_
    refine lv_iconst (v := 0) hx hb dX3_lay_66 (by decide) ?_
    refine lv_istore_n (lv' := [(3, .int 0), (0, .ref a0), (1, .int a1), (2, .ref a2)]) hx hb dX3_lay_67 rfl hl (by decide) rfl (fun ls hl => ?_)
    refine lv_pc (pc2 := 68) rfl ?_
    refine lp_gen (fun WW hWW => ?_)
    have kx : ∀ (yk : Int32) (H1 : Heap) (locs1 : List Loc) (ls1 : Array Slot), 0 ≤ yk.toInt → yk.toInt ≤ 2 → tG D (gF cI cL cC gC gE G gW gA) t H1 → tF t wrMo s.heap H1 locs1 → lv_has ls1 4 [(3, .int yk), (0, .ref a0), (1, .int a1), (2, .ref a2)] → WW H1 locs1 (F0 m 102 ls1 []) := by
      intro yk H locs ls v0 v1 hG hS hl
      refine (hWW _ _ _).mpr ?_
      refine lv_iconst (v := 1) hx hb dX3_lay_102 (by decide) ?_
      exact ty_zret hx hb hr hlk rfl hG hS (by decide) dX3_lay_103
    have loop : ∀ (k : Nat) (yk : Int32) (H1 : Heap) (locs1 : List Loc) (ls1 : Array Slot), 2 - yk.toInt ≤ (k : Int) → 0 ≤ yk.toInt → yk.toInt ≤ 2 → tG D (gF cI cL cC gC gE G gW gA) t H1 → tF t wrMo s.heap H1 locs1 → lv_has ls1 4 [(3, .int yk), (0, .ref a0), (1, .int a1), (2, .ref a2)] → WW H1 locs1 (F0 m 68 ls1 []) := by
      intro k
      induction k with
      | zero =>
        intro yk H locs ls hk v0 v1 hG hS hl
        refine (hWW _ _ _).mpr ?_
        refine lv_iload_n hx hb dX3_lay_68 rfl (lv_at hl 0 rfl) ?_
        refine lv_pc (pc2 := 69) rfl ?_
        refine lv_iconst (v := 2) hx hb dX3_lay_69 (by decide) ?_
        refine lv_icmp_ge (tgt := 102) hx hb dX3_lay_70 (by decide) (fun c_1 => ?_) (fun c_1 => ?_)
        · skip
          have c_1 : 2 ≤ yk.toInt := q_le c_1
          exact (hWW _ _ _).mp (kx yk H locs ls (by omega) (by omega) hG hS (lv_sub hl [0, 1, 2, 3] rfl))
        · skip
          have c_1 : yk.toInt < 2 := q_nle c_1
          refine lv_aload_n hx hb dX3_lay_73 rfl (lv_at hl 1 rfl) ?_
          refine lv_iload_n hx hb dX3_lay_74 rfl (lv_at hl 0 rfl) ?_
          obtain ⟨r_2, r_4, r_6, r_8, r_10, at_12, h_3, h_5, h_7, h_9, h_11⟩ := gF_o7 hG k_a0
          refine ty_calli ((W.runV (As := [.int yk]) (rest := []) ⟨hx, hb, hml, hown, hts⟩ (s_X3_isSet l D t cI cL cC gC gE G gW gA a0 yk k_a0) (cwV 1 hts gu_X3_lay_X3_isSet_37 rfl rfl rfl (by decide +kernel) ⟨Nat.le_of_ble_eq_true rfl, Nat.le_of_ble_eq_true rfl⟩) (tP_V hG hE at_12 rfl) rfl rfl hl.1 rfl (lv_room (Nat.le_of_ble_eq_true rfl)) dX3_lay_75 ⟨Nat.le_of_ble_eq_true rfl, Nat.le_of_ble_eq_true rfl⟩)) hS (fun k h => by simp [wr0] at h) (fun r_13 H locs hp_14 hG hS o_15 => ?_)
          have at_12 := va_at.keptC at_12 o_15 k_a0 rfl
          rcases hp_14 with ⟨rfl, hc_89, hc_90⟩ | ⟨rfl, _⟩
          · skip
            refine lv_if_eq (tgt := 96) hx hb dX3_lay_78 (by decide) (fun q => absurd q (by decide)) (fun _ => ?_)
            refine lv_aload_n hx hb dX3_lay_81 rfl (lv_at hl 3 rfl) ?_
            refine lv_aload_n hx hb dX3_lay_82 rfl (lv_at hl 1 rfl) ?_
            refine lv_pc (pc2 := 83) rfl ?_
            refine va_get (D := D) (ci := 2) (v := .ref r_2) (C := RX3) (T := TX3) (N := 5) hx hb hts in3 hown hK (va_one at_12) 0 rfl rfl 0 (by decide) (hts (.fieldLink RX3 9 "RiverModel$Knobs" "items" "[I") (List.mem_of_getElem? (i := 5) rfl)) (fun _ h9 => h9) rfl dX3_lay_83 ?_
            refine lv_iload_n hx hb dX3_lay_86 rfl (lv_at hl 0 rfl) ?_
            obtain ⟨f_16, at_17⟩ := gF_o24 hG h_3
            have b_18 : vp_in yk 2 := (q_in (by omega) (by omega))
            refine va_iald hx hb hK (va_one at_17) 0 0 rfl rfl b_18 dX3_lay_87 ?_
            refine lv_topi (fun x_19 e_20 => ?_)
            obtain ⟨r_21, r_23, r_25, v_27, v_28, v_29, at_31, h_22, h_24, h_26, h_30⟩ := gF_o3 hG k_a2
            refine ty_calli ((W.runV (As := [.int x_19]) (rest := []) ⟨hx, hb, hml, hown, hts⟩ (s_X4_isItemAsTold l D t cI cL cC gC gE G gW gA a2 x_19 k_a2) (cwV 1 hts gu_X3_lay_X4_isItemAsTold_63 rfl rfl rfl (by decide +kernel) ⟨Nat.le_of_ble_eq_true rfl, Nat.le_of_ble_eq_true rfl⟩) (tP_V hG hE at_31 rfl) rfl rfl hl.1 rfl (lv_room (Nat.le_of_ble_eq_true rfl)) dX3_lay_88 ⟨Nat.le_of_ble_eq_true rfl, Nat.le_of_ble_eq_true rfl⟩)) hS (fun k h => by simp [wr0] at h) (fun r_32 H locs hp_33 hG hS o_34 => ?_)
            have at_12 := va_at.keptC at_12 o_34 k_a0 rfl
            have at_17 := va_at.keptC at_17 o_34 h_3 rfl
            have at_31 := va_at.keptC at_31 o_34 k_a2 rfl
            rcases hp_33 with rfl | rfl
            · skip
              refine lv_if_ne (tgt := 96) hx hb dX3_lay_91 (by decide) (fun q => absurd rfl q) (fun _ => ?_)
              refine lv_iconst (v := 0) hx hb dX3_lay_94 (by decide) ?_
              exact ty_zret hx hb hr hlk rfl hG hS (by decide) dX3_lay_95
            · skip
              refine lv_if_ne (tgt := 96) hx hb dX3_lay_91 (by decide) (fun _ => ?_) (fun q => absurd q (by decide))
              refine lv_pc (pc2 := 96) rfl ?_
              obtain ⟨x_35, e_36⟩ : ∃ y : Int32, y = yk + Int32.ofInt 1 := ⟨_, rfl⟩
              have i_x_35 : x_35.toInt = yk.toInt + 1 := by rw [e_36, show Int32.ofInt 1 = 1 by decide]; exact (q_add (by rw [show (1 : Int32).toInt = 1 by decide]; omega) (by rw [show (1 : Int32).toInt = 1 by decide]; omega)).trans (by rw [show (1 : Int32).toInt = 1 by decide])
              refine lv_iinc (v := x_35) (lv' := [(3, .int x_35), (0, .ref a0), (1, .int a1), (2, .ref a2)]) hx hb dX3_lay_96 hl (k := 0) rfl e_36.symm (by decide) rfl (fun ls hl => ?_)
              refine lv_goto (tgt := 68) hx hb dX3_lay_99 (by decide) ?_
              exfalso; omega
          · skip
            refine lv_if_eq (tgt := 96) hx hb dX3_lay_78 (by decide) (fun _ => ?_) (fun q => absurd (by decide) q)
            obtain ⟨x_37, e_38⟩ : ∃ y : Int32, y = yk + Int32.ofInt 1 := ⟨_, rfl⟩
            have i_x_37 : x_37.toInt = yk.toInt + 1 := by rw [e_38, show Int32.ofInt 1 = 1 by decide]; exact (q_add (by rw [show (1 : Int32).toInt = 1 by decide]; omega) (by rw [show (1 : Int32).toInt = 1 by decide]; omega)).trans (by rw [show (1 : Int32).toInt = 1 by decide])
            refine lv_iinc (v := x_37) (lv' := [(3, .int x_37), (0, .ref a0), (1, .int a1), (2, .ref a2)]) hx hb dX3_lay_96 hl (k := 0) rfl e_38.symm (by decide) rfl (fun ls hl => ?_)
            refine lv_goto (tgt := 68) hx hb dX3_lay_99 (by decide) ?_
            exfalso; omega
      | succ k ih =>
        intro yk H locs ls hk v0 v1 hG hS hl
        refine (hWW _ _ _).mpr ?_
        refine lv_iload_n hx hb dX3_lay_68 rfl (lv_at hl 0 rfl) ?_
        refine lv_iconst (v := 2) hx hb dX3_lay_69 (by decide) ?_
        refine lv_icmp_ge (tgt := 102) hx hb dX3_lay_70 (by decide) (fun c_39 => ?_) (fun c_39 => ?_)
        · skip
          have c_39 : 2 ≤ yk.toInt := q_le c_39
          exact (hWW _ _ _).mp (kx yk H locs ls (by omega) (by omega) hG hS (lv_sub hl [0, 1, 2, 3] rfl))
        · skip
          have c_39 : yk.toInt < 2 := q_nle c_39
          refine lv_pc (pc2 := 73) rfl ?_
          refine lv_aload_n hx hb dX3_lay_73 rfl (lv_at hl 1 rfl) ?_
          refine lv_iload_n hx hb dX3_lay_74 rfl (lv_at hl 0 rfl) ?_
          obtain ⟨r_40, r_42, r_44, r_46, r_48, at_50, h_41, h_43, h_45, h_47, h_49⟩ := gF_o7 hG k_a0
          refine ty_calli ((W.runV (As := [.int yk]) (rest := []) ⟨hx, hb, hml, hown, hts⟩ (s_X3_isSet l D t cI cL cC gC gE G gW gA a0 yk k_a0) (cwV 1 hts gu_X3_lay_X3_isSet_37 rfl rfl rfl (by decide +kernel) ⟨Nat.le_of_ble_eq_true rfl, Nat.le_of_ble_eq_true rfl⟩) (tP_V hG hE at_50 rfl) rfl rfl hl.1 rfl (lv_room (Nat.le_of_ble_eq_true rfl)) dX3_lay_75 ⟨Nat.le_of_ble_eq_true rfl, Nat.le_of_ble_eq_true rfl⟩)) hS (fun k h => by simp [wr0] at h) (fun r_51 H locs hp_52 hG hS o_53 => ?_)
          have at_50 := va_at.keptC at_50 o_53 k_a0 rfl
          rcases hp_52 with ⟨rfl, hc_91, hc_92⟩ | ⟨rfl, _⟩
          · skip
            refine lv_if_eq (tgt := 96) hx hb dX3_lay_78 (by decide) (fun q => absurd q (by decide)) (fun _ => ?_)
            refine lv_aload_n hx hb dX3_lay_81 rfl (lv_at hl 3 rfl) ?_
            refine lv_aload_n hx hb dX3_lay_82 rfl (lv_at hl 1 rfl) ?_
            refine va_get (D := D) (ci := 2) (v := .ref r_40) (C := RX3) (T := TX3) (N := 5) hx hb hts in3 hown hK (va_one at_50) 0 rfl rfl 0 (by decide) (hts (.fieldLink RX3 9 "RiverModel$Knobs" "items" "[I") (List.mem_of_getElem? (i := 5) rfl)) (fun _ h9 => h9) rfl dX3_lay_83 ?_
            refine lv_iload_n hx hb dX3_lay_86 rfl (lv_at hl 0 rfl) ?_
            refine lv_pc (pc2 := 87) rfl ?_
            obtain ⟨f_54, at_55⟩ := gF_o24 hG h_41
            have b_56 : vp_in yk 2 := (q_in (by omega) (by omega))
            refine va_iald hx hb hK (va_one at_55) 0 0 rfl rfl b_56 dX3_lay_87 ?_
            refine lv_topi (fun x_57 e_58 => ?_)
            obtain ⟨r_59, r_61, r_63, v_65, v_66, v_67, at_69, h_60, h_62, h_64, h_68⟩ := gF_o3 hG k_a2
            refine ty_calli ((W.runV (As := [.int x_57]) (rest := []) ⟨hx, hb, hml, hown, hts⟩ (s_X4_isItemAsTold l D t cI cL cC gC gE G gW gA a2 x_57 k_a2) (cwV 1 hts gu_X3_lay_X4_isItemAsTold_63 rfl rfl rfl (by decide +kernel) ⟨Nat.le_of_ble_eq_true rfl, Nat.le_of_ble_eq_true rfl⟩) (tP_V hG hE at_69 rfl) rfl rfl hl.1 rfl (lv_room (Nat.le_of_ble_eq_true rfl)) dX3_lay_88 ⟨Nat.le_of_ble_eq_true rfl, Nat.le_of_ble_eq_true rfl⟩)) hS (fun k h => by simp [wr0] at h) (fun r_70 H locs hp_71 hG hS o_72 => ?_)
            have at_50 := va_at.keptC at_50 o_72 k_a0 rfl
            have at_55 := va_at.keptC at_55 o_72 h_41 rfl
            have at_69 := va_at.keptC at_69 o_72 k_a2 rfl
            rcases hp_71 with rfl | rfl
            · skip
              refine lv_if_ne (tgt := 96) hx hb dX3_lay_91 (by decide) (fun q => absurd rfl q) (fun _ => ?_)
              refine lv_iconst (v := 0) hx hb dX3_lay_94 (by decide) ?_
              exact ty_zret hx hb hr hlk rfl hG hS (by decide) dX3_lay_95
            · skip
              refine lv_if_ne (tgt := 96) hx hb dX3_lay_91 (by decide) (fun _ => ?_) (fun q => absurd q (by decide))
              obtain ⟨x_73, e_74⟩ : ∃ y : Int32, y = yk + Int32.ofInt 1 := ⟨_, rfl⟩
              have i_x_73 : x_73.toInt = yk.toInt + 1 := by rw [e_74, show Int32.ofInt 1 = 1 by decide]; exact (q_add (by rw [show (1 : Int32).toInt = 1 by decide]; omega) (by rw [show (1 : Int32).toInt = 1 by decide]; omega)).trans (by rw [show (1 : Int32).toInt = 1 by decide])
              refine lv_iinc (v := x_73) (lv' := [(3, .int x_73), (0, .ref a0), (1, .int a1), (2, .ref a2)]) hx hb dX3_lay_96 hl (k := 0) rfl e_74.symm (by decide) rfl (fun ls hl => ?_)
              refine lv_goto (tgt := 68) hx hb dX3_lay_99 (by decide) ?_
              exact (hWW _ _ _).mp (ih x_73 H locs ls (by omega) (by omega) (by omega) hG hS (lv_sub hl [0, 1, 2, 3] rfl))
          · skip
            refine lv_pc (pc2 := 78) rfl ?_
            refine lv_if_eq (tgt := 96) hx hb dX3_lay_78 (by decide) (fun _ => ?_) (fun q => absurd (by decide) q)
            obtain ⟨x_75, e_76⟩ : ∃ y : Int32, y = yk + Int32.ofInt 1 := ⟨_, rfl⟩
            have i_x_75 : x_75.toInt = yk.toInt + 1 := by rw [e_76, show Int32.ofInt 1 = 1 by decide]; exact (q_add (by rw [show (1 : Int32).toInt = 1 by decide]; omega) (by rw [show (1 : Int32).toInt = 1 by decide]; omega)).trans (by rw [show (1 : Int32).toInt = 1 by decide])
            refine lv_iinc (v := x_75) (lv' := [(3, .int x_75), (0, .ref a0), (1, .int a1), (2, .ref a2)]) hx hb dX3_lay_96 hl (k := 0) rfl e_76.symm (by decide) rfl (fun ls hl => ?_)
            refine lv_goto (tgt := 68) hx hb dX3_lay_99 (by decide) ?_
            exact (hWW _ _ _).mp (ih x_75 H locs ls (by omega) (by omega) (by omega) hG hS (lv_sub hl [0, 1, 2, 3] rfl))
    have hz_yk : (0 : Int32).toInt = 0 := by decide
    exact loop (2 - 0 : Int).toNat 0 H locs ls (by omega) (by omega) (by omega) hG hS (lv_sub hl [0, 1, 2, 3] rfl)
  have loop : ∀ (k : Nat) (yk : Int32) (H1 : Heap) (locs1 : List Loc) (ls1 : Array Slot), 2 - yk.toInt ≤ (k : Int) → 0 ≤ yk.toInt → yk.toInt ≤ 2 → tG D (gF cI cL cC gC gE G gW gA) t H1 → tF t wrMo s.heap H1 locs1 → lv_has ls1 4 [(3, .int yk), (0, .ref a0), (1, .int a1), (2, .ref a2)] → WW H1 locs1 (F0 m 2 ls1 []) := by
    intro k
    induction k with
    | zero =>
      intro yk H locs ls hk v0 v1 hG hS hl
      refine (hWW _ _ _).mpr ?_
      refine lv_iload_n hx hb dX3_lay_2 rfl (lv_at hl 0 rfl) ?_
      refine lv_iconst (v := 2) hx hb dX3_lay_3 (by decide) ?_
      refine lv_icmp_ge (tgt := 66) hx hb dX3_lay_4 (by decide) (fun c_77 => ?_) (fun c_77 => ?_)
      · skip
        have c_77 : 2 ≤ yk.toInt := q_le c_77
        exact (hWW _ _ _).mp (kx yk H locs ls (by omega) (by omega) hG hS (lv_sub hl [0, 1, 2, 3] rfl))
      · skip
        have c_77 : yk.toInt < 2 := q_nle c_77
        refine lv_aload_n hx hb dX3_lay_7 rfl (lv_at hl 1 rfl) ?_
        refine lv_iload_n hx hb dX3_lay_8 rfl (lv_at hl 0 rfl) ?_
        refine lv_pc (pc2 := 9) rfl ?_
        obtain ⟨r_78, r_80, r_82, r_84, r_86, at_88, h_79, h_81, h_83, h_85, h_87⟩ := gF_o7 hG k_a0
        refine ty_calli ((W.runV (As := [.int yk]) (rest := []) ⟨hx, hb, hml, hown, hts⟩ (s_X3_isSet l D t cI cL cC gC gE G gW gA a0 yk k_a0) (cwV 1 hts gu_X3_lay_X3_isSet_37 rfl rfl rfl (by decide +kernel) ⟨Nat.le_of_ble_eq_true rfl, Nat.le_of_ble_eq_true rfl⟩) (tP_V hG hE at_88 rfl) rfl rfl hl.1 rfl (lv_room (Nat.le_of_ble_eq_true rfl)) dX3_lay_9 ⟨Nat.le_of_ble_eq_true rfl, Nat.le_of_ble_eq_true rfl⟩)) hS (fun k h => by simp [wr0] at h) (fun r_89 H locs hp_90 hG hS o_91 => ?_)
        have at_88 := va_at.keptC at_88 o_91 k_a0 rfl
        rcases hp_90 with ⟨rfl, hc_93, hc_94⟩ | ⟨rfl, _⟩
        · skip
          refine lv_if_eq (tgt := 60) hx hb dX3_lay_12 (by decide) (fun q => absurd q (by decide)) (fun _ => ?_)
          refine lv_aload_n hx hb dX3_lay_15 rfl (lv_at hl 3 rfl) ?_
          refine lv_aload_n hx hb dX3_lay_16 rfl (lv_at hl 1 rfl) ?_
          refine va_get (D := D) (ci := 2) (v := .ref r_78) (C := RX3) (T := TX3) (N := 5) hx hb hts in3 hown hK (va_one at_88) 0 rfl rfl 0 (by decide) (hts (.fieldLink RX3 9 "RiverModel$Knobs" "items" "[I") (List.mem_of_getElem? (i := 5) rfl)) (fun _ h9 => h9) rfl dX3_lay_17 ?_
          refine lv_iload_n hx hb dX3_lay_20 rfl (lv_at hl 0 rfl) ?_
          obtain ⟨f_92, at_93⟩ := gF_o24 hG h_79
          have b_94 : vp_in yk 2 := (q_in (by omega) (by omega))
          refine va_iald hx hb hK (va_one at_93) 0 0 rfl rfl b_94 dX3_lay_21 ?_
          refine lv_topi (fun x_95 e_96 => ?_)
          refine lv_aload_n hx hb dX3_lay_22 rfl (lv_at hl 1 rfl) ?_
          refine lv_pc (pc2 := 23) rfl ?_
          refine va_get (D := D) (ci := 2) (v := .ref r_80) (C := RX3) (T := TX3) (N := 5) hx hb hts in3 hown hK (va_one at_88) 0 rfl rfl 1 (by decide) (hts (.fieldLink RX3 15 "RiverModel$Knobs" "numbers" "[I") (List.mem_of_getElem? (i := 10) rfl)) (fun _ h9 => h9) rfl dX3_lay_23 ?_
          refine lv_iload_n hx hb dX3_lay_26 rfl (lv_at hl 0 rfl) ?_
          obtain ⟨f_97, at_98⟩ := gF_o25 hG h_81
          have b_99 : vp_in yk 2 := (q_in (by omega) (by omega))
          refine va_iald hx hb hK (va_one at_98) 0 0 rfl rfl b_99 dX3_lay_27 ?_
          refine lv_topi (fun x_100 e_101 => ?_)
          obtain ⟨r_102, r_104, r_106, v_108, v_109, v_110, at_112, h_103, h_105, h_107, h_111⟩ := gF_o3 hG k_a2
          refine ty_calli ((W.runV (As := [.int x_95, .int x_100]) (rest := []) ⟨hx, hb, hml, hown, hts⟩ (s_X4_hasNumber l D t cI cL cC gC gE G gW gA a2 x_95 x_100 k_a2) (cwV 2 hts gu_X3_lay_X4_hasNumber_50 rfl rfl rfl (by decide +kernel) ⟨Nat.le_of_ble_eq_true rfl, Nat.le_of_ble_eq_true rfl⟩) (tP_V hG hE at_112 rfl) rfl rfl hl.1 rfl (lv_room (Nat.le_of_ble_eq_true rfl)) dX3_lay_28 ⟨Nat.le_of_ble_eq_true rfl, Nat.le_of_ble_eq_true rfl⟩)) hS (fun k h => by simp [wr0] at h) (fun r_113 H locs hp_114 hG hS o_115 => ?_)
          have at_88 := va_at.keptC at_88 o_115 k_a0 rfl
          have at_93 := va_at.keptC at_93 o_115 h_79 rfl
          have at_98 := va_at.keptC at_98 o_115 h_81 rfl
          have at_112 := va_at.keptC at_112 o_115 k_a2 rfl
          rcases hp_114 with rfl | rfl
          · skip
            refine lv_if_ne (tgt := 36) hx hb dX3_lay_31 (by decide) (fun q => absurd rfl q) (fun _ => ?_)
            refine lv_iconst (v := 0) hx hb dX3_lay_34 (by decide) ?_
            exact ty_zret hx hb hr hlk rfl hG hS (by decide) dX3_lay_35
          · skip
            refine lv_if_ne (tgt := 36) hx hb dX3_lay_31 (by decide) (fun _ => ?_) (fun q => absurd q (by decide))
            refine lv_pc (pc2 := 36) rfl ?_
            refine lv_aload_n hx hb dX3_lay_36 rfl (lv_at hl 3 rfl) ?_
            refine lv_aload_n hx hb dX3_lay_37 rfl (lv_at hl 1 rfl) ?_
            refine va_get (D := D) (ci := 2) (v := .ref r_78) (C := RX3) (T := TX3) (N := 5) hx hb hts in3 hown hK (va_one at_88) 0 rfl rfl 0 (by decide) (hts (.fieldLink RX3 9 "RiverModel$Knobs" "items" "[I") (List.mem_of_getElem? (i := 5) rfl)) (fun _ h9 => h9) rfl dX3_lay_38 ?_
            refine lv_iload_n hx hb dX3_lay_41 rfl (lv_at hl 0 rfl) ?_
            have b_116 : vp_in yk 2 := (q_in (by omega) (by omega))
            refine va_iald hx hb hK (va_one at_93) 0 0 rfl rfl b_116 dX3_lay_42 ?_
            refine lv_seti (y := x_95) e_96.symm ?_
            refine lv_iconst (v := 3) hx hb dX3_lay_43 (by decide) ?_
            refine lv_aload_n hx hb dX3_lay_44 rfl (lv_at hl 1 rfl) ?_
            refine va_get (D := D) (ci := 2) (v := .ref r_80) (C := RX3) (T := TX3) (N := 5) hx hb hts in3 hown hK (va_one at_88) 0 rfl rfl 1 (by decide) (hts (.fieldLink RX3 15 "RiverModel$Knobs" "numbers" "[I") (List.mem_of_getElem? (i := 10) rfl)) (fun _ h9 => h9) rfl dX3_lay_45 ?_
            refine lv_pc (pc2 := 48) rfl ?_
            refine lv_iload_n hx hb dX3_lay_48 rfl (lv_at hl 0 rfl) ?_
            have b_117 : vp_in yk 2 := (q_in (by omega) (by omega))
            refine va_iald hx hb hK (va_one at_98) 0 0 rfl rfl b_117 dX3_lay_49 ?_
            refine lv_seti (y := x_100) e_101.symm ?_
            refine lv_iadd hx hb dX3_lay_50 ?_
            refine lv_topi (fun x_118 e_119 => ?_)
            refine lv_aload_n hx hb dX3_lay_51 rfl (lv_at hl 1 rfl) ?_
            refine lv_iload_n hx hb dX3_lay_52 rfl (lv_at hl 0 rfl) ?_
            refine lv_iload_n hx hb dX3_lay_53 rfl (lv_at hl 2 rfl) ?_
            refine ty_calli ((W.runV (As := [.int yk, .int a1]) (rest := [.int x_118, .int x_95, .ref a2]) ⟨hx, hb, hml, hown, hts⟩ (s_X3_numberAt l D t cI cL cC gC gE G gW gA a0 yk a1 k_a0) (cwV 2 hts gu_X3_lay_X3_numberAt_56 rfl rfl rfl (by decide +kernel) ⟨Nat.le_of_ble_eq_true rfl, Nat.le_of_ble_eq_true rfl⟩) (tP_V hG hE at_88 rfl) rfl rfl hl.1 rfl (lv_room (Nat.le_of_ble_eq_true rfl)) dX3_lay_54 ⟨Nat.le_of_ble_eq_true rfl, Nat.le_of_ble_eq_true rfl⟩)) hS (fun k h => by simp [wr0] at h) (fun r_120 H locs hp_121 hG hS o_122 => ?_)
            have at_88 := va_at.keptC at_88 o_122 k_a0 rfl
            have at_93 := va_at.keptC at_93 o_122 h_79 rfl
            have at_98 := va_at.keptC at_98 o_122 h_81 rfl
            have at_112 := va_at.keptC at_112 o_122 k_a2 rfl
            refine ty_callv ((W.runV (As := [.int x_95, .int x_118, .int r_120]) (rest := []) ⟨hx, hb, hml, hown, hts⟩ (s_X4_putCell l D t cI cL cC gC gE G gW gA a2 x_95 x_118 r_120 k_a2) (cwV 3 hts gu_X3_lay_X4_putCell_59 rfl rfl rfl (by decide +kernel) ⟨Nat.le_of_ble_eq_true rfl, Nat.le_of_ble_eq_true rfl⟩) (tP_V hG hE at_112 rfl) rfl rfl hl.1 rfl (lv_room (Nat.le_of_ble_eq_true rfl)) dX3_lay_57 ⟨Nat.le_of_ble_eq_true rfl, Nat.le_of_ble_eq_true rfl⟩)) hS (fun _ h => h) (fun H locs hp_124 hG hS o_125 => ?_)
            have at_88 := va_at.keptC at_88 o_125 k_a0 rfl
            have at_93 := va_at.keptC at_93 o_125 h_79 rfl
            have at_98 := va_at.keptC at_98 o_125 h_81 rfl
            refine lv_pc (pc2 := 60) rfl ?_
            obtain ⟨x_126, e_127⟩ : ∃ y : Int32, y = yk + Int32.ofInt 1 := ⟨_, rfl⟩
            have i_x_126 : x_126.toInt = yk.toInt + 1 := by rw [e_127, show Int32.ofInt 1 = 1 by decide]; exact (q_add (by rw [show (1 : Int32).toInt = 1 by decide]; omega) (by rw [show (1 : Int32).toInt = 1 by decide]; omega)).trans (by rw [show (1 : Int32).toInt = 1 by decide])
            refine lv_iinc (v := x_126) (lv' := [(3, .int x_126), (0, .ref a0), (1, .int a1), (2, .ref a2)]) hx hb dX3_lay_60 hl (k := 0) rfl e_127.symm (by decide) rfl (fun ls hl => ?_)
            refine lv_goto (tgt := 2) hx hb dX3_lay_63 (by decide) ?_
            exfalso; omega
        · skip
          refine lv_if_eq (tgt := 60) hx hb dX3_lay_12 (by decide) (fun _ => ?_) (fun q => absurd (by decide) q)
          obtain ⟨x_128, e_129⟩ : ∃ y : Int32, y = yk + Int32.ofInt 1 := ⟨_, rfl⟩
          have i_x_128 : x_128.toInt = yk.toInt + 1 := by rw [e_129, show Int32.ofInt 1 = 1 by decide]; exact (q_add (by rw [show (1 : Int32).toInt = 1 by decide]; omega) (by rw [show (1 : Int32).toInt = 1 by decide]; omega)).trans (by rw [show (1 : Int32).toInt = 1 by decide])
          refine lv_iinc (v := x_128) (lv' := [(3, .int x_128), (0, .ref a0), (1, .int a1), (2, .ref a2)]) hx hb dX3_lay_60 hl (k := 0) rfl e_129.symm (by decide) rfl (fun ls hl => ?_)
          refine lv_goto (tgt := 2) hx hb dX3_lay_63 (by decide) ?_
          exfalso; omega
    | succ k ih =>
      intro yk H locs ls hk v0 v1 hG hS hl
      refine (hWW _ _ _).mpr ?_
      refine lv_iload_n hx hb dX3_lay_2 rfl (lv_at hl 0 rfl) ?_
      refine lv_iconst (v := 2) hx hb dX3_lay_3 (by decide) ?_
      refine lv_icmp_ge (tgt := 66) hx hb dX3_lay_4 (by decide) (fun c_130 => ?_) (fun c_130 => ?_)
      · skip
        have c_130 : 2 ≤ yk.toInt := q_le c_130
        exact (hWW _ _ _).mp (kx yk H locs ls (by omega) (by omega) hG hS (lv_sub hl [0, 1, 2, 3] rfl))
      · skip
        have c_130 : yk.toInt < 2 := q_nle c_130
        refine lv_pc (pc2 := 7) rfl ?_
        refine lv_aload_n hx hb dX3_lay_7 rfl (lv_at hl 1 rfl) ?_
        refine lv_iload_n hx hb dX3_lay_8 rfl (lv_at hl 0 rfl) ?_
        obtain ⟨r_131, r_133, r_135, r_137, r_139, at_141, h_132, h_134, h_136, h_138, h_140⟩ := gF_o7 hG k_a0
        refine ty_calli ((W.runV (As := [.int yk]) (rest := []) ⟨hx, hb, hml, hown, hts⟩ (s_X3_isSet l D t cI cL cC gC gE G gW gA a0 yk k_a0) (cwV 1 hts gu_X3_lay_X3_isSet_37 rfl rfl rfl (by decide +kernel) ⟨Nat.le_of_ble_eq_true rfl, Nat.le_of_ble_eq_true rfl⟩) (tP_V hG hE at_141 rfl) rfl rfl hl.1 rfl (lv_room (Nat.le_of_ble_eq_true rfl)) dX3_lay_9 ⟨Nat.le_of_ble_eq_true rfl, Nat.le_of_ble_eq_true rfl⟩)) hS (fun k h => by simp [wr0] at h) (fun r_142 H locs hp_143 hG hS o_144 => ?_)
        have at_141 := va_at.keptC at_141 o_144 k_a0 rfl
        rcases hp_143 with ⟨rfl, hc_95, hc_96⟩ | ⟨rfl, _⟩
        · skip
          refine lv_if_eq (tgt := 60) hx hb dX3_lay_12 (by decide) (fun q => absurd q (by decide)) (fun _ => ?_)
          refine lv_aload_n hx hb dX3_lay_15 rfl (lv_at hl 3 rfl) ?_
          refine lv_aload_n hx hb dX3_lay_16 rfl (lv_at hl 1 rfl) ?_
          refine va_get (D := D) (ci := 2) (v := .ref r_131) (C := RX3) (T := TX3) (N := 5) hx hb hts in3 hown hK (va_one at_141) 0 rfl rfl 0 (by decide) (hts (.fieldLink RX3 9 "RiverModel$Knobs" "items" "[I") (List.mem_of_getElem? (i := 5) rfl)) (fun _ h9 => h9) rfl dX3_lay_17 ?_
          refine lv_iload_n hx hb dX3_lay_20 rfl (lv_at hl 0 rfl) ?_
          refine lv_pc (pc2 := 21) rfl ?_
          obtain ⟨f_145, at_146⟩ := gF_o24 hG h_132
          have b_147 : vp_in yk 2 := (q_in (by omega) (by omega))
          refine va_iald hx hb hK (va_one at_146) 0 0 rfl rfl b_147 dX3_lay_21 ?_
          refine lv_topi (fun x_148 e_149 => ?_)
          refine lv_aload_n hx hb dX3_lay_22 rfl (lv_at hl 1 rfl) ?_
          refine va_get (D := D) (ci := 2) (v := .ref r_133) (C := RX3) (T := TX3) (N := 5) hx hb hts in3 hown hK (va_one at_141) 0 rfl rfl 1 (by decide) (hts (.fieldLink RX3 15 "RiverModel$Knobs" "numbers" "[I") (List.mem_of_getElem? (i := 10) rfl)) (fun _ h9 => h9) rfl dX3_lay_23 ?_
          refine lv_iload_n hx hb dX3_lay_26 rfl (lv_at hl 0 rfl) ?_
          obtain ⟨f_150, at_151⟩ := gF_o25 hG h_134
          have b_152 : vp_in yk 2 := (q_in (by omega) (by omega))
          refine va_iald hx hb hK (va_one at_151) 0 0 rfl rfl b_152 dX3_lay_27 ?_
          refine lv_topi (fun x_153 e_154 => ?_)
          obtain ⟨r_155, r_157, r_159, v_161, v_162, v_163, at_165, h_156, h_158, h_160, h_164⟩ := gF_o3 hG k_a2
          refine ty_calli ((W.runV (As := [.int x_148, .int x_153]) (rest := []) ⟨hx, hb, hml, hown, hts⟩ (s_X4_hasNumber l D t cI cL cC gC gE G gW gA a2 x_148 x_153 k_a2) (cwV 2 hts gu_X3_lay_X4_hasNumber_50 rfl rfl rfl (by decide +kernel) ⟨Nat.le_of_ble_eq_true rfl, Nat.le_of_ble_eq_true rfl⟩) (tP_V hG hE at_165 rfl) rfl rfl hl.1 rfl (lv_room (Nat.le_of_ble_eq_true rfl)) dX3_lay_28 ⟨Nat.le_of_ble_eq_true rfl, Nat.le_of_ble_eq_true rfl⟩)) hS (fun k h => by simp [wr0] at h) (fun r_166 H locs hp_167 hG hS o_168 => ?_)
          have at_141 := va_at.keptC at_141 o_168 k_a0 rfl
          have at_146 := va_at.keptC at_146 o_168 h_132 rfl
          have at_151 := va_at.keptC at_151 o_168 h_134 rfl
          have at_165 := va_at.keptC at_165 o_168 k_a2 rfl
          rcases hp_167 with rfl | rfl
          · skip
            refine lv_if_ne (tgt := 36) hx hb dX3_lay_31 (by decide) (fun q => absurd rfl q) (fun _ => ?_)
            refine lv_iconst (v := 0) hx hb dX3_lay_34 (by decide) ?_
            refine lv_pc (pc2 := 35) rfl ?_
            exact ty_zret hx hb hr hlk rfl hG hS (by decide) dX3_lay_35
          · skip
            refine lv_if_ne (tgt := 36) hx hb dX3_lay_31 (by decide) (fun _ => ?_) (fun q => absurd q (by decide))
            refine lv_aload_n hx hb dX3_lay_36 rfl (lv_at hl 3 rfl) ?_
            refine lv_aload_n hx hb dX3_lay_37 rfl (lv_at hl 1 rfl) ?_
            refine va_get (D := D) (ci := 2) (v := .ref r_131) (C := RX3) (T := TX3) (N := 5) hx hb hts in3 hown hK (va_one at_141) 0 rfl rfl 0 (by decide) (hts (.fieldLink RX3 9 "RiverModel$Knobs" "items" "[I") (List.mem_of_getElem? (i := 5) rfl)) (fun _ h9 => h9) rfl dX3_lay_38 ?_
            refine lv_iload_n hx hb dX3_lay_41 rfl (lv_at hl 0 rfl) ?_
            have b_169 : vp_in yk 2 := (q_in (by omega) (by omega))
            refine va_iald hx hb hK (va_one at_146) 0 0 rfl rfl b_169 dX3_lay_42 ?_
            refine lv_seti (y := x_148) e_149.symm ?_
            refine lv_iconst (v := 3) hx hb dX3_lay_43 (by decide) ?_
            refine lv_pc (pc2 := 44) rfl ?_
            refine lv_aload_n hx hb dX3_lay_44 rfl (lv_at hl 1 rfl) ?_
            refine va_get (D := D) (ci := 2) (v := .ref r_133) (C := RX3) (T := TX3) (N := 5) hx hb hts in3 hown hK (va_one at_141) 0 rfl rfl 1 (by decide) (hts (.fieldLink RX3 15 "RiverModel$Knobs" "numbers" "[I") (List.mem_of_getElem? (i := 10) rfl)) (fun _ h9 => h9) rfl dX3_lay_45 ?_
            refine lv_iload_n hx hb dX3_lay_48 rfl (lv_at hl 0 rfl) ?_
            have b_170 : vp_in yk 2 := (q_in (by omega) (by omega))
            refine va_iald hx hb hK (va_one at_151) 0 0 rfl rfl b_170 dX3_lay_49 ?_
            refine lv_seti (y := x_153) e_154.symm ?_
            refine lv_iadd hx hb dX3_lay_50 ?_
            refine lv_topi (fun x_171 e_172 => ?_)
            refine lv_aload_n hx hb dX3_lay_51 rfl (lv_at hl 1 rfl) ?_
            refine lv_iload_n hx hb dX3_lay_52 rfl (lv_at hl 0 rfl) ?_
            refine lv_iload_n hx hb dX3_lay_53 rfl (lv_at hl 2 rfl) ?_
            refine lv_pc (pc2 := 54) rfl ?_
            refine ty_calli ((W.runV (As := [.int yk, .int a1]) (rest := [.int x_171, .int x_148, .ref a2]) ⟨hx, hb, hml, hown, hts⟩ (s_X3_numberAt l D t cI cL cC gC gE G gW gA a0 yk a1 k_a0) (cwV 2 hts gu_X3_lay_X3_numberAt_56 rfl rfl rfl (by decide +kernel) ⟨Nat.le_of_ble_eq_true rfl, Nat.le_of_ble_eq_true rfl⟩) (tP_V hG hE at_141 rfl) rfl rfl hl.1 rfl (lv_room (Nat.le_of_ble_eq_true rfl)) dX3_lay_54 ⟨Nat.le_of_ble_eq_true rfl, Nat.le_of_ble_eq_true rfl⟩)) hS (fun k h => by simp [wr0] at h) (fun r_173 H locs hp_174 hG hS o_175 => ?_)
            have at_141 := va_at.keptC at_141 o_175 k_a0 rfl
            have at_146 := va_at.keptC at_146 o_175 h_132 rfl
            have at_151 := va_at.keptC at_151 o_175 h_134 rfl
            have at_165 := va_at.keptC at_165 o_175 k_a2 rfl
            refine ty_callv ((W.runV (As := [.int x_148, .int x_171, .int r_173]) (rest := []) ⟨hx, hb, hml, hown, hts⟩ (s_X4_putCell l D t cI cL cC gC gE G gW gA a2 x_148 x_171 r_173 k_a2) (cwV 3 hts gu_X3_lay_X4_putCell_59 rfl rfl rfl (by decide +kernel) ⟨Nat.le_of_ble_eq_true rfl, Nat.le_of_ble_eq_true rfl⟩) (tP_V hG hE at_165 rfl) rfl rfl hl.1 rfl (lv_room (Nat.le_of_ble_eq_true rfl)) dX3_lay_57 ⟨Nat.le_of_ble_eq_true rfl, Nat.le_of_ble_eq_true rfl⟩)) hS (fun _ h => h) (fun H locs hp_177 hG hS o_178 => ?_)
            have at_141 := va_at.keptC at_141 o_178 k_a0 rfl
            have at_146 := va_at.keptC at_146 o_178 h_132 rfl
            have at_151 := va_at.keptC at_151 o_178 h_134 rfl
            obtain ⟨x_179, e_180⟩ : ∃ y : Int32, y = yk + Int32.ofInt 1 := ⟨_, rfl⟩
            have i_x_179 : x_179.toInt = yk.toInt + 1 := by rw [e_180, show Int32.ofInt 1 = 1 by decide]; exact (q_add (by rw [show (1 : Int32).toInt = 1 by decide]; omega) (by rw [show (1 : Int32).toInt = 1 by decide]; omega)).trans (by rw [show (1 : Int32).toInt = 1 by decide])
            refine lv_iinc (v := x_179) (lv' := [(3, .int x_179), (0, .ref a0), (1, .int a1), (2, .ref a2)]) hx hb dX3_lay_60 hl (k := 0) rfl e_180.symm (by decide) rfl (fun ls hl => ?_)
            refine lv_goto (tgt := 2) hx hb dX3_lay_63 (by decide) ?_
            exact (hWW _ _ _).mp (ih x_179 H locs ls (by omega) (by omega) (by omega) hG hS (lv_sub hl [0, 1, 2, 3] rfl))
        · skip
          refine lv_if_eq (tgt := 60) hx hb dX3_lay_12 (by decide) (fun _ => ?_) (fun q => absurd (by decide) q)
          obtain ⟨x_181, e_182⟩ : ∃ y : Int32, y = yk + Int32.ofInt 1 := ⟨_, rfl⟩
          have i_x_181 : x_181.toInt = yk.toInt + 1 := by rw [e_182, show Int32.ofInt 1 = 1 by decide]; exact (q_add (by rw [show (1 : Int32).toInt = 1 by decide]; omega) (by rw [show (1 : Int32).toInt = 1 by decide]; omega)).trans (by rw [show (1 : Int32).toInt = 1 by decide])
          refine lv_iinc (v := x_181) (lv' := [(3, .int x_181), (0, .ref a0), (1, .int a1), (2, .ref a2)]) hx hb dX3_lay_60 hl (k := 0) rfl e_182.symm (by decide) rfl (fun ls hl => ?_)
          refine lv_goto (tgt := 2) hx hb dX3_lay_63 (by decide) ?_
          exact (hWW _ _ _).mp (ih x_181 H locs ls (by omega) (by omega) (by omega) hG hS (lv_sub hl [0, 1, 2, 3] rfl))
  have hz_yk : (0 : Int32).toInt = 0 := by decide
  exact loop (2 - 0 : Int).toNat 0 H locs ls (by omega) (by omega) (by omega) hG hS (lv_sub hl [0, 1, 2, 3] rfl)
