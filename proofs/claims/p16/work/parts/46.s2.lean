theorem dX0_goHourBy_0 : decode cX0_goHourBy 0 = .ok (.aload_n 0, 1) := by decide +kernel
theorem dX0_goHourBy_1 : decode cX0_goHourBy 1 = .ok (.aload_n 1, 1) := by decide +kernel
theorem dX0_goHourBy_2 : decode cX0_goHourBy 2 = .ok (.aload_n 2, 1) := by decide +kernel
theorem dX0_goHourBy_3 : decode cX0_goHourBy 3 = .ok (.aload_n 0, 1) := by decide +kernel
theorem dX0_goHourBy_4 : decode cX0_goHourBy 4 = .ok (.getfield 35, 3) := by decide +kernel
theorem dX0_goHourBy_7 : decode cX0_goHourBy 7 = .ok (.invokevirtual 60, 3) := by decide +kernel
theorem dX0_goHourBy_10 : decode cX0_goHourBy 10 = .ok (.aload_n 2, 1) := by decide +kernel
theorem dX0_goHourBy_11 : decode cX0_goHourBy 11 = .ok (.aload_n 0, 1) := by decide +kernel
theorem dX0_goHourBy_12 : decode cX0_goHourBy 12 = .ok (.getfield 35, 3) := by decide +kernel
theorem dX0_goHourBy_15 : decode cX0_goHourBy 15 = .ok (.invokevirtual 65, 3) := by decide +kernel
theorem dX0_goHourBy_18 : decode cX0_goHourBy 18 = .ok (.invokevirtual 68, 3) := by decide +kernel
theorem dX0_goHourBy_21 : decode cX0_goHourBy 21 = .ok (.return_, 1) := by decide +kernel
theorem dX0_heldByAll_0 : decode cX0_heldByAll 0 = .ok (.lconst 0, 1) := by decide +kernel
theorem dX0_heldByAll_1 : decode cX0_heldByAll 1 = .ok (.lstore_n 1, 1) := by decide +kernel
theorem dX0_heldByAll_2 : decode cX0_heldByAll 2 = .ok (.iconst 0, 1) := by decide +kernel
theorem dX0_heldByAll_3 : decode cX0_heldByAll 3 = .ok (.istore_n 3, 1) := by decide +kernel
theorem dX0_heldByAll_4 : decode cX0_heldByAll 4 = .ok (.iload_n 3, 1) := by decide +kernel
theorem dX0_heldByAll_5 : decode cX0_heldByAll 5 = .ok (.bipush 16, 2) := by decide +kernel
theorem dX0_heldByAll_7 : decode cX0_heldByAll 7 = .ok (.if_icmp .ge 18, 3) := by decide +kernel
theorem dX0_heldByAll_10 : decode cX0_heldByAll 10 = .ok (.lload_n 1, 1) := by decide +kernel
theorem dX0_heldByAll_11 : decode cX0_heldByAll 11 = .ok (.aload_n 0, 1) := by decide +kernel
theorem dX0_heldByAll_12 : decode cX0_heldByAll 12 = .ok (.getfield 9, 3) := by decide +kernel
theorem dX0_heldByAll_15 : decode cX0_heldByAll 15 = .ok (.iload_n 3, 1) := by decide +kernel
theorem dX0_heldByAll_16 : decode cX0_heldByAll 16 = .ok (.laload, 1) := by decide +kernel
theorem dX0_heldByAll_17 : decode cX0_heldByAll 17 = .ok (.ladd, 1) := by decide +kernel
theorem dX0_heldByAll_18 : decode cX0_heldByAll 18 = .ok (.lstore_n 1, 1) := by decide +kernel
theorem dX0_heldByAll_19 : decode cX0_heldByAll 19 = .ok (.iinc 3 1, 3) := by decide +kernel
theorem dX0_heldByAll_22 : decode cX0_heldByAll 22 = .ok (.goto (-18), 3) := by decide +kernel
theorem dX0_heldByAll_25 : decode cX0_heldByAll 25 = .ok (.lload_n 1, 1) := by decide +kernel
theorem dX0_heldByAll_26 : decode cX0_heldByAll 26 = .ok (.lreturn, 1) := by decide +kernel
theorem dX0_underWayTo_0 : decode cX0_underWayTo 0 = .ok (.lconst 0, 1) := by decide +kernel
theorem dX0_underWayTo_1 : decode cX0_underWayTo 1 = .ok (.lstore_n 2, 1) := by decide +kernel
theorem dX0_underWayTo_2 : decode cX0_underWayTo 2 = .ok (.iconst 0, 1) := by decide +kernel
theorem dX0_underWayTo_3 : decode cX0_underWayTo 3 = .ok (.istore 4, 2) := by decide +kernel
theorem dX0_underWayTo_5 : decode cX0_underWayTo 5 = .ok (.iload 4, 2) := by decide +kernel
theorem dX0_underWayTo_7 : decode cX0_underWayTo 7 = .ok (.bipush 13, 2) := by decide +kernel
theorem dX0_underWayTo_9 : decode cX0_underWayTo 9 = .ok (.if_icmp .ge 31, 3) := by decide +kernel
theorem dX0_underWayTo_12 : decode cX0_underWayTo 12 = .ok (.iload_n 1, 1) := by decide +kernel
theorem dX0_underWayTo_13 : decode cX0_underWayTo 13 = .ok (.invokestatic 90, 3) := by decide +kernel
theorem dX0_underWayTo_16 : decode cX0_underWayTo 16 = .ok (.ifCond .ne 24, 3) := by decide +kernel
theorem dX0_underWayTo_19 : decode cX0_underWayTo 19 = .ok (.lload_n 2, 1) := by decide +kernel
theorem dX0_underWayTo_20 : decode cX0_underWayTo 20 = .ok (.aload_n 0, 1) := by decide +kernel
theorem dX0_underWayTo_21 : decode cX0_underWayTo 21 = .ok (.getfield 22, 3) := by decide +kernel
theorem dX0_underWayTo_24 : decode cX0_underWayTo 24 = .ok (.iload 4, 2) := by decide +kernel
theorem dX0_underWayTo_26 : decode cX0_underWayTo 26 = .ok (.bipush 16, 2) := by decide +kernel
theorem dX0_underWayTo_28 : decode cX0_underWayTo 28 = .ok (.imul, 1) := by decide +kernel
theorem dX0_underWayTo_29 : decode cX0_underWayTo 29 = .ok (.iload_n 1, 1) := by decide +kernel
theorem dX0_underWayTo_30 : decode cX0_underWayTo 30 = .ok (.iadd, 1) := by decide +kernel
theorem dX0_underWayTo_31 : decode cX0_underWayTo 31 = .ok (.laload, 1) := by decide +kernel
theorem dX0_underWayTo_32 : decode cX0_underWayTo 32 = .ok (.ladd, 1) := by decide +kernel
theorem dX0_underWayTo_33 : decode cX0_underWayTo 33 = .ok (.lstore_n 2, 1) := by decide +kernel
theorem dX0_underWayTo_34 : decode cX0_underWayTo 34 = .ok (.iinc 4 1, 3) := by decide +kernel
theorem dX0_underWayTo_37 : decode cX0_underWayTo 37 = .ok (.goto (-32), 3) := by decide +kernel
theorem dX0_underWayTo_40 : decode cX0_underWayTo 40 = .ok (.lload_n 2, 1) := by decide +kernel
theorem dX0_underWayTo_41 : decode cX0_underWayTo 41 = .ok (.lreturn, 1) := by decide +kernel
theorem dX0_underWayToAll_0 : decode cX0_underWayToAll 0 = .ok (.lconst 0, 1) := by decide +kernel
theorem dX0_underWayToAll_1 : decode cX0_underWayToAll 1 = .ok (.lstore_n 1, 1) := by decide +kernel
theorem dX0_underWayToAll_2 : decode cX0_underWayToAll 2 = .ok (.iconst 0, 1) := by decide +kernel
theorem dX0_underWayToAll_3 : decode cX0_underWayToAll 3 = .ok (.istore_n 3, 1) := by decide +kernel
theorem dX0_underWayToAll_4 : decode cX0_underWayToAll 4 = .ok (.iload_n 3, 1) := by decide +kernel
theorem dX0_underWayToAll_5 : decode cX0_underWayToAll 5 = .ok (.aload_n 0, 1) := by decide +kernel
theorem dX0_underWayToAll_6 : decode cX0_underWayToAll 6 = .ok (.getfield 22, 3) := by decide +kernel
theorem dX0_underWayToAll_9 : decode cX0_underWayToAll 9 = .ok (.arraylength, 1) := by decide +kernel
theorem dX0_underWayToAll_10 : decode cX0_underWayToAll 10 = .ok (.if_icmp .ge 18, 3) := by decide +kernel
theorem dX0_underWayToAll_13 : decode cX0_underWayToAll 13 = .ok (.lload_n 1, 1) := by decide +kernel
theorem dX0_underWayToAll_14 : decode cX0_underWayToAll 14 = .ok (.aload_n 0, 1) := by decide +kernel
theorem dX0_underWayToAll_15 : decode cX0_underWayToAll 15 = .ok (.getfield 22, 3) := by decide +kernel
theorem dX0_underWayToAll_18 : decode cX0_underWayToAll 18 = .ok (.iload_n 3, 1) := by decide +kernel
theorem dX0_underWayToAll_19 : decode cX0_underWayToAll 19 = .ok (.laload, 1) := by decide +kernel
theorem dX0_underWayToAll_20 : decode cX0_underWayToAll 20 = .ok (.ladd, 1) := by decide +kernel
theorem dX0_underWayToAll_21 : decode cX0_underWayToAll 21 = .ok (.lstore_n 1, 1) := by decide +kernel
theorem dX0_underWayToAll_22 : decode cX0_underWayToAll 22 = .ok (.iinc 3 1, 3) := by decide +kernel
theorem dX0_underWayToAll_25 : decode cX0_underWayToAll 25 = .ok (.goto (-21), 3) := by decide +kernel
theorem dX0_underWayToAll_28 : decode cX0_underWayToAll 28 = .ok (.lload_n 1, 1) := by decide +kernel
theorem dX0_underWayToAll_29 : decode cX0_underWayToAll 29 = .ok (.lreturn, 1) := by decide +kernel
theorem dX1_reading_0 : decode cX1_reading 0 = .ok (.aload_n 0, 1) := by decide +kernel
theorem dX1_reading_1 : decode cX1_reading 1 = .ok (.iload_n 2, 1) := by decide +kernel
theorem dX1_reading_2 : decode cX1_reading 2 = .ok (.invokevirtual 35, 3) := by decide +kernel
theorem dX1_reading_5 : decode cX1_reading 5 = .ok (.ifCond .ne 5, 3) := by decide +kernel
theorem dX1_reading_8 : decode cX1_reading 8 = .ok (.lconst 0, 1) := by decide +kernel
theorem dX1_reading_9 : decode cX1_reading 9 = .ok (.lreturn, 1) := by decide +kernel
theorem dX1_reading_10 : decode cX1_reading 10 = .ok (.aload_n 0, 1) := by decide +kernel
theorem dX1_reading_11 : decode cX1_reading 11 = .ok (.getfield 15, 3) := by decide +kernel
theorem dX1_reading_14 : decode cX1_reading 14 = .ok (.iload_n 2, 1) := by decide +kernel
theorem dX1_reading_15 : decode cX1_reading 15 = .ok (.iaload, 1) := by decide +kernel
theorem dX1_reading_16 : decode cX1_reading 16 = .ok (.istore_n 3, 1) := by decide +kernel
theorem dX1_reading_17 : decode cX1_reading 17 = .ok (.aload_n 0, 1) := by decide +kernel
theorem dX1_reading_18 : decode cX1_reading 18 = .ok (.getfield 9, 3) := by decide +kernel
theorem dX1_reading_21 : decode cX1_reading 21 = .ok (.iload_n 2, 1) := by decide +kernel
theorem dX1_reading_22 : decode cX1_reading 22 = .ok (.iaload, 1) := by decide +kernel
theorem dX1_reading_23 : decode cX1_reading 23 = .ok (.ifCond .ne 21, 3) := by decide +kernel
theorem dX1_reading_26 : decode cX1_reading 26 = .ok (.iload_n 3, 1) := by decide +kernel
theorem dX1_reading_27 : decode cX1_reading 27 = .ok (.invokestatic 38, 3) := by decide +kernel
theorem dX1_reading_30 : decode cX1_reading 30 = .ok (.ifCond .eq 7, 3) := by decide +kernel
theorem dX1_reading_33 : decode cX1_reading 33 = .ok (.lconst 0, 1) := by decide +kernel
theorem dX1_reading_34 : decode cX1_reading 34 = .ok (.goto 9, 3) := by decide +kernel
theorem dX1_reading_37 : decode cX1_reading 37 = .ok (.aload_n 1, 1) := by decide +kernel
theorem dX1_reading_38 : decode cX1_reading 38 = .ok (.getfield 41, 3) := by decide +kernel
theorem dX1_reading_41 : decode cX1_reading 41 = .ok (.iload_n 3, 1) := by decide +kernel
theorem dX1_reading_42 : decode cX1_reading 42 = .ok (.laload, 1) := by decide +kernel
theorem dX1_reading_43 : decode cX1_reading 43 = .ok (.lreturn, 1) := by decide +kernel
theorem dX1_reading_44 : decode cX1_reading 44 = .ok (.iload_n 3, 1) := by decide +kernel
theorem dX1_reading_45 : decode cX1_reading 45 = .ok (.invokestatic 47, 3) := by decide +kernel
theorem dX1_reading_48 : decode cX1_reading 48 = .ok (.ifCond .eq 7, 3) := by decide +kernel
theorem dX1_reading_51 : decode cX1_reading 51 = .ok (.lconst 0, 1) := by decide +kernel
theorem dX1_reading_52 : decode cX1_reading 52 = .ok (.goto 9, 3) := by decide +kernel
theorem dX1_reading_55 : decode cX1_reading 55 = .ok (.aload_n 1, 1) := by decide +kernel
theorem dX1_reading_56 : decode cX1_reading 56 = .ok (.getfield 50, 3) := by decide +kernel
theorem dX1_reading_59 : decode cX1_reading 59 = .ok (.iload_n 3, 1) := by decide +kernel
theorem dX1_reading_60 : decode cX1_reading 60 = .ok (.laload, 1) := by decide +kernel
theorem dX1_reading_61 : decode cX1_reading 61 = .ok (.lreturn, 1) := by decide +kernel
theorem dX1_agree_0 : decode cX1_agree 0 = .ok (.iconst 0, 1) := by decide +kernel
theorem dX1_agree_1 : decode cX1_agree 1 = .ok (.istore_n 3, 1) := by decide +kernel
theorem dX1_agree_2 : decode cX1_agree 2 = .ok (.iload_n 3, 1) := by decide +kernel
theorem dX1_agree_3 : decode cX1_agree 3 = .ok (.iconst 4, 1) := by decide +kernel
theorem dX1_agree_4 : decode cX1_agree 4 = .ok (.if_icmp .ge 58, 3) := by decide +kernel
theorem dX1_agree_7 : decode cX1_agree 7 = .ok (.iload_n 2, 1) := by decide +kernel
theorem dX1_agree_8 : decode cX1_agree 8 = .ok (.bipush 96, 2) := by decide +kernel
theorem dX1_agree_10 : decode cX1_agree 10 = .ok (.if_icmp .ge 52, 3) := by decide +kernel
theorem dX1_agree_13 : decode cX1_agree 13 = .ok (.aload_n 0, 1) := by decide +kernel
theorem dX1_agree_14 : decode cX1_agree 14 = .ok (.getfield 18, 3) := by decide +kernel
theorem dX1_agree_17 : decode cX1_agree 17 = .ok (.iload_n 3, 1) := by decide +kernel
theorem dX1_agree_18 : decode cX1_agree 18 = .ok (.bipush 96, 2) := by decide +kernel
theorem dX1_agree_20 : decode cX1_agree 20 = .ok (.imul, 1) := by decide +kernel
theorem dX1_agree_21 : decode cX1_agree 21 = .ok (.iload_n 2, 1) := by decide +kernel
theorem dX1_agree_22 : decode cX1_agree 22 = .ok (.iadd, 1) := by decide +kernel
theorem dX1_agree_23 : decode cX1_agree 23 = .ok (.iaload, 1) := by decide +kernel
theorem dX1_agree_24 : decode cX1_agree 24 = .ok (.istore 4, 2) := by decide +kernel
theorem dX1_agree_26 : decode cX1_agree 26 = .ok (.iload 4, 2) := by decide +kernel
theorem dX1_agree_28 : decode cX1_agree 28 = .ok (.iconst (-1), 1) := by decide +kernel
theorem dX1_agree_29 : decode cX1_agree 29 = .ok (.if_icmp .eq 27, 3) := by decide +kernel
theorem dX1_agree_32 : decode cX1_agree 32 = .ok (.aload_n 0, 1) := by decide +kernel
theorem dX1_agree_33 : decode cX1_agree 33 = .ok (.aload_n 1, 1) := by decide +kernel
theorem dX1_agree_34 : decode cX1_agree 34 = .ok (.iload_n 3, 1) := by decide +kernel
theorem dX1_agree_35 : decode cX1_agree 35 = .ok (.invokevirtual 57, 3) := by decide +kernel
theorem dX1_agree_38 : decode cX1_agree 38 = .ok (.iload 4, 2) := by decide +kernel
theorem dX1_agree_40 : decode cX1_agree 40 = .ok (.i2l, 1) := by decide +kernel
theorem dX1_agree_41 : decode cX1_agree 41 = .ok (.lsub, 1) := by decide +kernel
theorem dX1_agree_42 : decode cX1_agree 42 = .ok (.invokestatic 61, 3) := by decide +kernel
theorem dX1_agree_45 : decode cX1_agree 45 = .ok (.aload_n 0, 1) := by decide +kernel
theorem dX1_agree_46 : decode cX1_agree 46 = .ok (.getfield 21, 3) := by decide +kernel
theorem dX1_agree_49 : decode cX1_agree 49 = .ok (.i2l, 1) := by decide +kernel
theorem dX1_agree_50 : decode cX1_agree 50 = .ok (.lcmp, 1) := by decide +kernel
theorem dX1_agree_51 : decode cX1_agree 51 = .ok (.ifCond .le 5, 3) := by decide +kernel
theorem dX1_agree_54 : decode cX1_agree 54 = .ok (.iconst 0, 1) := by decide +kernel
theorem dX1_agree_55 : decode cX1_agree 55 = .ok (.ireturn, 1) := by decide +kernel
theorem dX1_agree_56 : decode cX1_agree 56 = .ok (.iinc 3 1, 3) := by decide +kernel
theorem dX1_agree_59 : decode cX1_agree 59 = .ok (.goto (-57), 3) := by decide +kernel
theorem dX1_agree_62 : decode cX1_agree 62 = .ok (.iconst 1, 1) := by decide +kernel
theorem dX1_agree_63 : decode cX1_agree 63 = .ok (.ireturn, 1) := by decide +kernel
theorem dX1_lastSeen_0 : decode cX1_lastSeen 0 = .ok (.iconst (-1), 1) := by decide +kernel
theorem dX1_lastSeen_1 : decode cX1_lastSeen 1 = .ok (.istore_n 1, 1) := by decide +kernel
theorem dX1_lastSeen_2 : decode cX1_lastSeen 2 = .ok (.iconst 0, 1) := by decide +kernel
theorem dX1_lastSeen_3 : decode cX1_lastSeen 3 = .ok (.istore_n 2, 1) := by decide +kernel
theorem dX1_lastSeen_4 : decode cX1_lastSeen 4 = .ok (.iload_n 2, 1) := by decide +kernel
theorem dX1_lastSeen_5 : decode cX1_lastSeen 5 = .ok (.aload_n 0, 1) := by decide +kernel
theorem dX1_lastSeen_6 : decode cX1_lastSeen 6 = .ok (.getfield 18, 3) := by decide +kernel
theorem dX1_lastSeen_9 : decode cX1_lastSeen 9 = .ok (.arraylength, 1) := by decide +kernel
theorem dX1_lastSeen_10 : decode cX1_lastSeen 10 = .ok (.if_icmp .ge 28, 3) := by decide +kernel
theorem dX1_lastSeen_13 : decode cX1_lastSeen 13 = .ok (.aload_n 0, 1) := by decide +kernel
theorem dX1_lastSeen_14 : decode cX1_lastSeen 14 = .ok (.getfield 18, 3) := by decide +kernel
theorem dX1_lastSeen_17 : decode cX1_lastSeen 17 = .ok (.iload_n 2, 1) := by decide +kernel
theorem dX1_lastSeen_18 : decode cX1_lastSeen 18 = .ok (.iaload, 1) := by decide +kernel
theorem dX1_lastSeen_19 : decode cX1_lastSeen 19 = .ok (.iconst (-1), 1) := by decide +kernel
theorem dX1_lastSeen_20 : decode cX1_lastSeen 20 = .ok (.if_icmp .eq 12, 3) := by decide +kernel
theorem dX1_lastSeen_23 : decode cX1_lastSeen 23 = .ok (.iload_n 1, 1) := by decide +kernel
theorem dX1_lastSeen_24 : decode cX1_lastSeen 24 = .ok (.iload_n 2, 1) := by decide +kernel
theorem dX1_lastSeen_25 : decode cX1_lastSeen 25 = .ok (.bipush 96, 2) := by decide +kernel
theorem dX1_lastSeen_27 : decode cX1_lastSeen 27 = .ok (.irem, 1) := by decide +kernel
theorem dX1_lastSeen_28 : decode cX1_lastSeen 28 = .ok (.invokestatic 67, 3) := by decide +kernel
theorem dX1_lastSeen_31 : decode cX1_lastSeen 31 = .ok (.istore_n 1, 1) := by decide +kernel
theorem dX1_lastSeen_32 : decode cX1_lastSeen 32 = .ok (.iinc 2 1, 3) := by decide +kernel
theorem dX1_lastSeen_35 : decode cX1_lastSeen 35 = .ok (.goto (-31), 3) := by decide +kernel
theorem dX1_lastSeen_38 : decode cX1_lastSeen 38 = .ok (.iload_n 1, 1) := by decide +kernel
theorem dX1_lastSeen_39 : decode cX1_lastSeen 39 = .ok (.ireturn, 1) := by decide +kernel
theorem dX1_setMany_0 : decode cX1_setMany 0 = .ok (.iconst 0, 1) := by decide +kernel
theorem dX1_setMany_1 : decode cX1_setMany 1 = .ok (.istore_n 1, 1) := by decide +kernel
theorem dX1_setMany_2 : decode cX1_setMany 2 = .ok (.iconst 0, 1) := by decide +kernel
theorem dX1_setMany_3 : decode cX1_setMany 3 = .ok (.istore_n 2, 1) := by decide +kernel
theorem dX1_setMany_4 : decode cX1_setMany 4 = .ok (.iload_n 2, 1) := by decide +kernel
theorem dX1_setMany_5 : decode cX1_setMany 5 = .ok (.iconst 4, 1) := by decide +kernel
theorem dX1_setMany_6 : decode cX1_setMany 6 = .ok (.if_icmp .ge 25, 3) := by decide +kernel
theorem dX1_setMany_9 : decode cX1_setMany 9 = .ok (.iload_n 1, 1) := by decide +kernel
theorem dX1_setMany_10 : decode cX1_setMany 10 = .ok (.aload_n 0, 1) := by decide +kernel
theorem dX1_setMany_11 : decode cX1_setMany 11 = .ok (.iload_n 2, 1) := by decide +kernel
theorem dX1_setMany_12 : decode cX1_setMany 12 = .ok (.invokevirtual 35, 3) := by decide +kernel
theorem dX1_setMany_15 : decode cX1_setMany 15 = .ok (.ifCond .eq 7, 3) := by decide +kernel
theorem dX1_setMany_18 : decode cX1_setMany 18 = .ok (.iconst 1, 1) := by decide +kernel
theorem dX1_setMany_19 : decode cX1_setMany 19 = .ok (.goto 4, 3) := by decide +kernel
theorem dX1_setMany_22 : decode cX1_setMany 22 = .ok (.iconst 0, 1) := by decide +kernel
theorem dX1_setMany_23 : decode cX1_setMany 23 = .ok (.iadd, 1) := by decide +kernel
theorem dX1_setMany_24 : decode cX1_setMany 24 = .ok (.istore_n 1, 1) := by decide +kernel
theorem dX1_setMany_25 : decode cX1_setMany 25 = .ok (.iinc 2 1, 3) := by decide +kernel
theorem dX1_setMany_28 : decode cX1_setMany 28 = .ok (.goto (-24), 3) := by decide +kernel
theorem dX1_setMany_31 : decode cX1_setMany 31 = .ok (.iload_n 1, 1) := by decide +kernel
theorem dX1_setMany_32 : decode cX1_setMany 32 = .ok (.ireturn, 1) := by decide +kernel
theorem dX1_seenMany_0 : decode cX1_seenMany 0 = .ok (.iconst 0, 1) := by decide +kernel
theorem dX1_seenMany_1 : decode cX1_seenMany 1 = .ok (.istore_n 1, 1) := by decide +kernel
theorem dX1_seenMany_2 : decode cX1_seenMany 2 = .ok (.iconst 0, 1) := by decide +kernel
theorem dX1_seenMany_3 : decode cX1_seenMany 3 = .ok (.istore_n 2, 1) := by decide +kernel
theorem dX1_seenMany_4 : decode cX1_seenMany 4 = .ok (.iload_n 2, 1) := by decide +kernel
theorem dX1_seenMany_5 : decode cX1_seenMany 5 = .ok (.aload_n 0, 1) := by decide +kernel
theorem dX1_seenMany_6 : decode cX1_seenMany 6 = .ok (.getfield 18, 3) := by decide +kernel
theorem dX1_seenMany_9 : decode cX1_seenMany 9 = .ok (.arraylength, 1) := by decide +kernel
theorem dX1_seenMany_10 : decode cX1_seenMany 10 = .ok (.if_icmp .ge 27, 3) := by decide +kernel
theorem dX1_seenMany_13 : decode cX1_seenMany 13 = .ok (.iload_n 1, 1) := by decide +kernel
theorem dX1_seenMany_14 : decode cX1_seenMany 14 = .ok (.aload_n 0, 1) := by decide +kernel
theorem dX1_seenMany_15 : decode cX1_seenMany 15 = .ok (.getfield 18, 3) := by decide +kernel
theorem dX1_seenMany_18 : decode cX1_seenMany 18 = .ok (.iload_n 2, 1) := by decide +kernel
theorem dX1_seenMany_19 : decode cX1_seenMany 19 = .ok (.iaload, 1) := by decide +kernel
theorem dX1_seenMany_20 : decode cX1_seenMany 20 = .ok (.iconst (-1), 1) := by decide +kernel
theorem dX1_seenMany_21 : decode cX1_seenMany 21 = .ok (.if_icmp .eq 7, 3) := by decide +kernel
theorem dX1_seenMany_24 : decode cX1_seenMany 24 = .ok (.iconst 1, 1) := by decide +kernel
theorem dX1_seenMany_25 : decode cX1_seenMany 25 = .ok (.goto 4, 3) := by decide +kernel
theorem dX1_seenMany_28 : decode cX1_seenMany 28 = .ok (.iconst 0, 1) := by decide +kernel
theorem dX1_seenMany_29 : decode cX1_seenMany 29 = .ok (.iadd, 1) := by decide +kernel
theorem dX1_seenMany_30 : decode cX1_seenMany 30 = .ok (.istore_n 1, 1) := by decide +kernel
theorem dX1_seenMany_31 : decode cX1_seenMany 31 = .ok (.iinc 2 1, 3) := by decide +kernel
theorem dX1_seenMany_34 : decode cX1_seenMany 34 = .ok (.goto (-30), 3) := by decide +kernel
theorem dX1_seenMany_37 : decode cX1_seenMany 37 = .ok (.iload_n 1, 1) := by decide +kernel
theorem dX1_seenMany_38 : decode cX1_seenMany 38 = .ok (.ireturn, 1) := by decide +kernel
theorem dX3_unsetAll_0 : decode cX3_unsetAll 0 = .ok (.aload_n 0, 1) := by decide +kernel
theorem dX3_unsetAll_1 : decode cX3_unsetAll 1 = .ok (.getfield 24, 3) := by decide +kernel
theorem dX3_unsetAll_4 : decode cX3_unsetAll 4 = .ok (.iconst 0, 1) := by decide +kernel
theorem dX3_unsetAll_5 : decode cX3_unsetAll 5 = .ok (.invokestatic 27, 3) := by decide +kernel
theorem dX3_unsetAll_8 : decode cX3_unsetAll 8 = .ok (.return_, 1) := by decide +kernel
theorem dX3_set_0 : decode cX3_set 0 = .ok (.iload_n 1, 1) := by decide +kernel
theorem dX3_set_1 : decode cX3_set 1 = .ok (.invokestatic 33, 3) := by decide +kernel
theorem dX3_set_4 : decode cX3_set 4 = .ok (.ifCond .eq 4, 3) := by decide +kernel
theorem dX3_set_7 : decode cX3_set 7 = .ok (.return_, 1) := by decide +kernel
theorem dX3_set_8 : decode cX3_set 8 = .ok (.aload_n 0, 1) := by decide +kernel
theorem dX3_set_9 : decode cX3_set 9 = .ok (.getfield 9, 3) := by decide +kernel
theorem dX3_set_12 : decode cX3_set 12 = .ok (.iload_n 1, 1) := by decide +kernel
theorem dX3_set_13 : decode cX3_set 13 = .ok (.iload_n 2, 1) := by decide +kernel
theorem dX3_set_14 : decode cX3_set 14 = .ok (.iastore, 1) := by decide +kernel
theorem dX3_set_15 : decode cX3_set 15 = .ok (.aload_n 0, 1) := by decide +kernel
theorem dX3_set_16 : decode cX3_set 16 = .ok (.getfield 15, 3) := by decide +kernel
theorem dX3_set_19 : decode cX3_set 19 = .ok (.iload_n 1, 1) := by decide +kernel
theorem dX3_set_20 : decode cX3_set 20 = .ok (.iload_n 3, 1) := by decide +kernel
theorem dX3_set_21 : decode cX3_set 21 = .ok (.iastore, 1) := by decide +kernel
theorem dX3_set_22 : decode cX3_set 22 = .ok (.aload_n 0, 1) := by decide +kernel
theorem dX3_set_23 : decode cX3_set 23 = .ok (.getfield 18, 3) := by decide +kernel
theorem dX3_set_26 : decode cX3_set 26 = .ok (.iload_n 1, 1) := by decide +kernel
theorem dX3_set_27 : decode cX3_set 27 = .ok (.iload 4, 2) := by decide +kernel
theorem dX3_set_29 : decode cX3_set 29 = .ok (.iastore, 1) := by decide +kernel
theorem dX3_set_30 : decode cX3_set 30 = .ok (.aload_n 0, 1) := by decide +kernel
theorem dX3_set_31 : decode cX3_set 31 = .ok (.getfield 21, 3) := by decide +kernel
theorem dX3_set_34 : decode cX3_set 34 = .ok (.iload_n 1, 1) := by decide +kernel
theorem dX3_set_35 : decode cX3_set 35 = .ok (.iload 5, 2) := by decide +kernel
theorem dX3_set_37 : decode cX3_set 37 = .ok (.iastore, 1) := by decide +kernel
theorem dX3_set_38 : decode cX3_set 38 = .ok (.aload_n 0, 1) := by decide +kernel
theorem dX3_set_39 : decode cX3_set 39 = .ok (.getfield 24, 3) := by decide +kernel
theorem dX3_set_42 : decode cX3_set 42 = .ok (.iload_n 1, 1) := by decide +kernel
theorem dX3_set_43 : decode cX3_set 43 = .ok (.iload 6, 2) := by decide +kernel
theorem dX3_set_45 : decode cX3_set 45 = .ok (.iastore, 1) := by decide +kernel
theorem dX3_set_46 : decode cX3_set 46 = .ok (.return_, 1) := by decide +kernel
theorem dX3_setMany_0 : decode cX3_setMany 0 = .ok (.aload_n 0, 1) := by decide +kernel
theorem dX3_setMany_1 : decode cX3_setMany 1 = .ok (.iconst 0, 1) := by decide +kernel
theorem dX3_setMany_2 : decode cX3_setMany 2 = .ok (.invokevirtual 37, 3) := by decide +kernel
theorem dX3_setMany_5 : decode cX3_setMany 5 = .ok (.ifCond .eq 7, 3) := by decide +kernel
theorem dX3_setMany_8 : decode cX3_setMany 8 = .ok (.iconst 1, 1) := by decide +kernel
theorem dX3_setMany_9 : decode cX3_setMany 9 = .ok (.goto 4, 3) := by decide +kernel
theorem dX3_setMany_12 : decode cX3_setMany 12 = .ok (.iconst 0, 1) := by decide +kernel
theorem dX3_setMany_13 : decode cX3_setMany 13 = .ok (.aload_n 0, 1) := by decide +kernel
theorem dX3_setMany_14 : decode cX3_setMany 14 = .ok (.iconst 1, 1) := by decide +kernel
theorem dX3_setMany_15 : decode cX3_setMany 15 = .ok (.invokevirtual 37, 3) := by decide +kernel
theorem dX3_setMany_18 : decode cX3_setMany 18 = .ok (.ifCond .eq 7, 3) := by decide +kernel
theorem dX3_setMany_21 : decode cX3_setMany 21 = .ok (.iconst 1, 1) := by decide +kernel
theorem dX3_setMany_22 : decode cX3_setMany 22 = .ok (.goto 4, 3) := by decide +kernel
theorem dX3_setMany_25 : decode cX3_setMany 25 = .ok (.iconst 0, 1) := by decide +kernel
theorem dX3_setMany_26 : decode cX3_setMany 26 = .ok (.iadd, 1) := by decide +kernel
theorem dX3_setMany_27 : decode cX3_setMany 27 = .ok (.ireturn, 1) := by decide +kernel
theorem dX3_points_0 : decode cX3_points 0 = .ok (.aload_n 0, 1) := by decide +kernel
theorem dX3_points_1 : decode cX3_points 1 = .ok (.iconst 0, 1) := by decide +kernel
theorem dX3_points_2 : decode cX3_points 2 = .ok (.invokevirtual 40, 3) := by decide +kernel
theorem dX3_points_5 : decode cX3_points 5 = .ok (.aload_n 0, 1) := by decide +kernel
theorem dX3_points_6 : decode cX3_points 6 = .ok (.iconst 1, 1) := by decide +kernel
theorem dX3_points_7 : decode cX3_points 7 = .ok (.invokevirtual 40, 3) := by decide +kernel
theorem dX3_points_10 : decode cX3_points 10 = .ok (.imul, 1) := by decide +kernel
theorem dX3_points_11 : decode cX3_points 11 = .ok (.ireturn, 1) := by decide +kernel
theorem dX5_prepare_0 : decode cX5_prepare 0 = .ok (.aload_n 0, 1) := by decide +kernel
theorem dX5_prepare_1 : decode cX5_prepare 1 = .ok (.iload_n 1, 1) := by decide +kernel
theorem dX5_prepare_2 : decode cX5_prepare 2 = .ok (.putfield 32, 3) := by decide +kernel
theorem dX5_prepare_5 : decode cX5_prepare 5 = .ok (.aload_n 0, 1) := by decide +kernel
theorem dX5_prepare_6 : decode cX5_prepare 6 = .ok (.iload_n 2, 1) := by decide +kernel
theorem dX5_prepare_7 : decode cX5_prepare 7 = .ok (.putfield 36, 3) := by decide +kernel
theorem dX5_prepare_10 : decode cX5_prepare 10 = .ok (.aload_n 0, 1) := by decide +kernel
theorem dX5_prepare_11 : decode cX5_prepare 11 = .ok (.iload_n 3, 1) := by decide +kernel
theorem dX5_prepare_12 : decode cX5_prepare 12 = .ok (.putfield 39, 3) := by decide +kernel
theorem dX5_prepare_15 : decode cX5_prepare 15 = .ok (.aload_n 0, 1) := by decide +kernel
theorem dX5_prepare_16 : decode cX5_prepare 16 = .ok (.iload 4, 2) := by decide +kernel
theorem dX5_prepare_18 : decode cX5_prepare 18 = .ok (.putfield 42, 3) := by decide +kernel
theorem dX5_prepare_21 : decode cX5_prepare 21 = .ok (.aload_n 0, 1) := by decide +kernel
theorem dX5_prepare_22 : decode cX5_prepare 22 = .ok (.lload 5, 2) := by decide +kernel
theorem dX5_prepare_24 : decode cX5_prepare 24 = .ok (.putfield 45, 3) := by decide +kernel
theorem dX5_prepare_27 : decode cX5_prepare 27 = .ok (.aload_n 0, 1) := by decide +kernel
theorem dX5_prepare_28 : decode cX5_prepare 28 = .ok (.iconst 0, 1) := by decide +kernel
theorem dX5_prepare_29 : decode cX5_prepare 29 = .ok (.putfield 24, 3) := by decide +kernel
theorem dX5_prepare_32 : decode cX5_prepare 32 = .ok (.return_, 1) := by decide +kernel
theorem dX5_tryBlock_0 : decode cX5_tryBlock 0 = .ok (.iload 5, 2) := by decide +kernel
theorem dX5_tryBlock_2 : decode cX5_tryBlock 2 = .ok (.iconst 0, 1) := by decide +kernel
theorem dX5_tryBlock_3 : decode cX5_tryBlock 3 = .ok (.iconst 3, 1) := by decide +kernel
theorem dX5_tryBlock_4 : decode cX5_tryBlock 4 = .ok (.invokestatic 49, 3) := by decide +kernel
theorem dX5_tryBlock_7 : decode cX5_tryBlock 7 = .ok (.ifCond .eq 4, 3) := by decide +kernel
theorem dX5_tryBlock_10 : decode cX5_tryBlock 10 = .ok (.return_, 1) := by decide +kernel
theorem dX5_tryBlock_11 : decode cX5_tryBlock 11 = .ok (.aload_n 0, 1) := by decide +kernel
theorem dX5_tryBlock_12 : decode cX5_tryBlock 12 = .ok (.getfield 11, 3) := by decide +kernel
theorem dX5_tryBlock_15 : decode cX5_tryBlock 15 = .ok (.iload 5, 2) := by decide +kernel
theorem dX5_tryBlock_17 : decode cX5_tryBlock 17 = .ok (.aaload, 1) := by decide +kernel
theorem dX5_tryBlock_18 : decode cX5_tryBlock 18 = .ok (.astore 8, 2) := by decide +kernel
theorem dX5_tryBlock_20 : decode cX5_tryBlock 20 = .ok (.iconst 0, 1) := by decide +kernel
theorem dX5_tryBlock_21 : decode cX5_tryBlock 21 = .ok (.istore 9, 2) := by decide +kernel
theorem dX5_tryBlock_23 : decode cX5_tryBlock 23 = .ok (.iload 9, 2) := by decide +kernel
theorem dX5_tryBlock_25 : decode cX5_tryBlock 25 = .ok (.bipush 10, 2) := by decide +kernel
theorem dX5_tryBlock_27 : decode cX5_tryBlock 27 = .ok (.if_icmp .gt 99, 3) := by decide +kernel
theorem dX5_tryBlock_30 : decode cX5_tryBlock 30 = .ok (.aload_n 0, 1) := by decide +kernel
theorem dX5_tryBlock_31 : decode cX5_tryBlock 31 = .ok (.getfield 17, 3) := by decide +kernel
theorem dX5_tryBlock_34 : decode cX5_tryBlock 34 = .ok (.iload 5, 2) := by decide +kernel
theorem dX5_tryBlock_36 : decode cX5_tryBlock 36 = .ok (.iload 9, 2) := by decide +kernel
theorem dX5_tryBlock_38 : decode cX5_tryBlock 38 = .ok (.iastore, 1) := by decide +kernel
theorem dX5_tryBlock_39 : decode cX5_tryBlock 39 = .ok (.aload 8, 2) := by decide +kernel
theorem dX5_tryBlock_41 : decode cX5_tryBlock 41 = .ok (.aload 4, 2) := by decide +kernel
theorem dX5_tryBlock_43 : decode cX5_tryBlock 43 = .ok (.invokevirtual 53, 3) := by decide +kernel
theorem dX5_tryBlock_46 : decode cX5_tryBlock 46 = .ok (.aload_n 0, 1) := by decide +kernel
theorem dX5_tryBlock_47 : decode cX5_tryBlock 47 = .ok (.aload_n 1, 1) := by decide +kernel
theorem dX5_tryBlock_48 : decode cX5_tryBlock 48 = .ok (.aload_n 2, 1) := by decide +kernel
theorem dX5_tryBlock_49 : decode cX5_tryBlock 49 = .ok (.aload_n 3, 1) := by decide +kernel
theorem dX5_tryBlock_50 : decode cX5_tryBlock 50 = .ok (.aload 8, 2) := by decide +kernel
theorem dX5_tryBlock_52 : decode cX5_tryBlock 52 = .ok (.iload 9, 2) := by decide +kernel
theorem dX5_tryBlock_54 : decode cX5_tryBlock 54 = .ok (.lload 6, 2) := by decide +kernel
theorem dX5_tryBlock_56 : decode cX5_tryBlock 56 = .ok (.invokevirtual 57, 3) := by decide +kernel
theorem dX5_tryBlock_59 : decode cX5_tryBlock 59 = .ok (.lstore 10, 2) := by decide +kernel
theorem dX5_tryBlock_61 : decode cX5_tryBlock 61 = .ok (.lload 10, 2) := by decide +kernel
theorem dX5_tryBlock_63 : decode cX5_tryBlock 63 = .ok (.ldc2_w 61, 3) := by decide +kernel
theorem dX5_tryBlock_66 : decode cX5_tryBlock 66 = .ok (.lcmp, 1) := by decide +kernel
theorem dX5_tryBlock_67 : decode cX5_tryBlock 67 = .ok (.ifCond .eq 53, 3) := by decide +kernel
theorem dX5_tryBlock_70 : decode cX5_tryBlock 70 = .ok (.aload_n 0, 1) := by decide +kernel
theorem dX5_tryBlock_71 : decode cX5_tryBlock 71 = .ok (.getfield 24, 3) := by decide +kernel
theorem dX5_tryBlock_74 : decode cX5_tryBlock 74 = .ok (.ifCond .eq 16, 3) := by decide +kernel
theorem dX5_tryBlock_77 : decode cX5_tryBlock 77 = .ok (.lload 10, 2) := by decide +kernel
theorem dX5_tryBlock_79 : decode cX5_tryBlock 79 = .ok (.aload_n 0, 1) := by decide +kernel
theorem dX5_tryBlock_80 : decode cX5_tryBlock 80 = .ok (.getfield 28, 3) := by decide +kernel
theorem dX5_tryBlock_83 : decode cX5_tryBlock 83 = .ok (.lcmp, 1) := by decide +kernel
theorem dX5_tryBlock_84 : decode cX5_tryBlock 84 = .ok (.ifCond .lt 6, 3) := by decide +kernel
theorem dX5_tryBlock_87 : decode cX5_tryBlock 87 = .ok (.goto 33, 3) := by decide +kernel
theorem dX5_tryBlock_90 : decode cX5_tryBlock 90 = .ok (.iload 5, 2) := by decide +kernel
theorem dX5_tryBlock_92 : decode cX5_tryBlock 92 = .ok (.iconst 3, 1) := by decide +kernel
theorem dX5_tryBlock_93 : decode cX5_tryBlock 93 = .ok (.if_icmp .ne 12, 3) := by decide +kernel
theorem dX5_tryBlock_96 : decode cX5_tryBlock 96 = .ok (.aload_n 0, 1) := by decide +kernel
theorem dX5_tryBlock_97 : decode cX5_tryBlock 97 = .ok (.lload 10, 2) := by decide +kernel
theorem dX5_tryBlock_99 : decode cX5_tryBlock 99 = .ok (.invokevirtual 63, 3) := by decide +kernel
theorem dX5_tryBlock_102 : decode cX5_tryBlock 102 = .ok (.goto 18, 3) := by decide +kernel
theorem dX5_tryBlock_120 : decode cX5_tryBlock 120 = .ok (.iinc 9 2, 3) := by decide +kernel
theorem dX5_tryBlock_123 : decode cX5_tryBlock 123 = .ok (.goto (-100), 3) := by decide +kernel
theorem dX5_tryBlock_126 : decode cX5_tryBlock 126 = .ok (.return_, 1) := by decide +kernel
theorem dX5_peakOfBlock_0 : decode cX5_peakOfBlock 0 = .ok (.aload_n 0, 1) := by decide +kernel
theorem dX5_peakOfBlock_1 : decode cX5_peakOfBlock 1 = .ok (.getfield 32, 3) := by decide +kernel
theorem dX5_peakOfBlock_4 : decode cX5_peakOfBlock 4 = .ok (.invokestatic 71, 3) := by decide +kernel
theorem dX5_peakOfBlock_7 : decode cX5_peakOfBlock 7 = .ok (.ifCond .ne 13, 3) := by decide +kernel
theorem dX5_peakOfBlock_10 : decode cX5_peakOfBlock 10 = .ok (.aload_n 0, 1) := by decide +kernel
theorem dX5_peakOfBlock_11 : decode cX5_peakOfBlock 11 = .ok (.getfield 42, 3) := by decide +kernel
theorem dX5_peakOfBlock_14 : decode cX5_peakOfBlock 14 = .ok (.invokestatic 75, 3) := by decide +kernel
theorem dX5_peakOfBlock_17 : decode cX5_peakOfBlock 17 = .ok (.ifCond .eq 7, 3) := by decide +kernel
theorem dX5_peakOfBlock_20 : decode cX5_peakOfBlock 20 = .ok (.ldc2_w 61, 3) := by decide +kernel
theorem dX5_peakOfBlock_23 : decode cX5_peakOfBlock 23 = .ok (.lreturn, 1) := by decide +kernel
theorem dX5_peakOfBlock_24 : decode cX5_peakOfBlock 24 = .ok (.aload 4, 2) := by decide +kernel
theorem dX5_peakOfBlock_26 : decode cX5_peakOfBlock 26 = .ok (.getfield 78, 3) := by decide +kernel
theorem dX5_peakOfBlock_29 : decode cX5_peakOfBlock 29 = .ok (.aload_n 0, 1) := by decide +kernel
theorem dX5_peakOfBlock_30 : decode cX5_peakOfBlock 30 = .ok (.getfield 32, 3) := by decide +kernel
theorem dX5_peakOfBlock_33 : decode cX5_peakOfBlock 33 = .ok (.iload 5, 2) := by decide +kernel
theorem dX5_peakOfBlock_35 : decode cX5_peakOfBlock 35 = .ok (.iastore, 1) := by decide +kernel
theorem dX5_peakOfBlock_36 : decode cX5_peakOfBlock 36 = .ok (.lload 6, 2) := by decide +kernel
theorem dX5_peakOfBlock_38 : decode cX5_peakOfBlock 38 = .ok (.lstore 8, 2) := by decide +kernel
theorem dX5_peakOfBlock_40 : decode cX5_peakOfBlock 40 = .ok (.iconst 0, 1) := by decide +kernel
theorem dX5_peakOfBlock_41 : decode cX5_peakOfBlock 41 = .ok (.istore 10, 2) := by decide +kernel
theorem dX5_peakOfBlock_43 : decode cX5_peakOfBlock 43 = .ok (.iload 10, 2) := by decide +kernel
theorem dX5_peakOfBlock_45 : decode cX5_peakOfBlock 45 = .ok (.aload_n 0, 1) := by decide +kernel
theorem dX5_peakOfBlock_46 : decode cX5_peakOfBlock 46 = .ok (.getfield 36, 3) := by decide +kernel
theorem dX5_peakOfBlock_49 : decode cX5_peakOfBlock 49 = .ok (.if_icmp .ge 72, 3) := by decide +kernel
theorem dX5_peakOfBlock_52 : decode cX5_peakOfBlock 52 = .ok (.aload 4, 2) := by decide +kernel
theorem dX5_peakOfBlock_54 : decode cX5_peakOfBlock 54 = .ok (.aload_n 1, 1) := by decide +kernel
theorem dX5_peakOfBlock_55 : decode cX5_peakOfBlock 55 = .ok (.aload_n 2, 1) := by decide +kernel
theorem dX5_peakOfBlock_56 : decode cX5_peakOfBlock 56 = .ok (.aload 4, 2) := by decide +kernel
theorem dX5_peakOfBlock_58 : decode cX5_peakOfBlock 58 = .ok (.getfield 81, 3) := by decide +kernel
theorem dX5_peakOfBlock_61 : decode cX5_peakOfBlock 61 = .ok (.invokevirtual 84, 3) := by decide +kernel
theorem dX5_peakOfBlock_64 : decode cX5_peakOfBlock 64 = .ok (.aload_n 2, 1) := by decide +kernel
theorem dX5_peakOfBlock_65 : decode cX5_peakOfBlock 65 = .ok (.aload 4, 2) := by decide +kernel
theorem dX5_peakOfBlock_67 : decode cX5_peakOfBlock 67 = .ok (.getfield 81, 3) := by decide +kernel
theorem dX5_peakOfBlock_70 : decode cX5_peakOfBlock 70 = .ok (.invokevirtual 90, 3) := by decide +kernel
theorem dX5_peakOfBlock_73 : decode cX5_peakOfBlock 73 = .ok (.invokevirtual 93, 3) := by decide +kernel
theorem dX5_peakOfBlock_76 : decode cX5_peakOfBlock 76 = .ok (.aload 4, 2) := by decide +kernel
theorem dX5_peakOfBlock_78 : decode cX5_peakOfBlock 78 = .ok (.getfield 97, 3) := by decide +kernel
theorem dX5_peakOfBlock_81 : decode cX5_peakOfBlock 81 = .ok (.aload_n 0, 1) := by decide +kernel
theorem dX5_peakOfBlock_82 : decode cX5_peakOfBlock 82 = .ok (.getfield 42, 3) := by decide +kernel
theorem dX5_peakOfBlock_85 : decode cX5_peakOfBlock 85 = .ok (.laload, 1) := by decide +kernel
theorem dX5_peakOfBlock_86 : decode cX5_peakOfBlock 86 = .ok (.aload_n 0, 1) := by decide +kernel
theorem dX5_peakOfBlock_87 : decode cX5_peakOfBlock 87 = .ok (.getfield 45, 3) := by decide +kernel
theorem dX5_peakOfBlock_90 : decode cX5_peakOfBlock 90 = .ok (.lcmp, 1) := by decide +kernel
theorem dX5_peakOfBlock_91 : decode cX5_peakOfBlock 91 = .ok (.ifCond .le 7, 3) := by decide +kernel
theorem dX5_peakOfBlock_94 : decode cX5_peakOfBlock 94 = .ok (.ldc2_w 61, 3) := by decide +kernel
theorem dX5_peakOfBlock_97 : decode cX5_peakOfBlock 97 = .ok (.lreturn, 1) := by decide +kernel
theorem dX5_peakOfBlock_98 : decode cX5_peakOfBlock 98 = .ok (.lload 8, 2) := by decide +kernel
theorem dX5_peakOfBlock_100 : decode cX5_peakOfBlock 100 = .ok (.aload_n 3, 1) := by decide +kernel
theorem dX5_peakOfBlock_101 : decode cX5_peakOfBlock 101 = .ok (.aload 4, 2) := by decide +kernel
theorem dX5_peakOfBlock_103 : decode cX5_peakOfBlock 103 = .ok (.aload_n 0, 1) := by decide +kernel
theorem dX5_peakOfBlock_104 : decode cX5_peakOfBlock 104 = .ok (.getfield 39, 3) := by decide +kernel
theorem dX5_peakOfBlock_107 : decode cX5_peakOfBlock 107 = .ok (.invokevirtual 101, 3) := by decide +kernel
theorem dX5_peakOfBlock_110 : decode cX5_peakOfBlock 110 = .ok (.invokestatic 107, 3) := by decide +kernel
theorem dX5_peakOfBlock_113 : decode cX5_peakOfBlock 113 = .ok (.lstore 8, 2) := by decide +kernel
theorem dX5_peakOfBlock_115 : decode cX5_peakOfBlock 115 = .ok (.iinc 10 1, 3) := by decide +kernel
theorem dX5_peakOfBlock_118 : decode cX5_peakOfBlock 118 = .ok (.goto (-75), 3) := by decide +kernel
theorem dX5_peakOfBlock_121 : decode cX5_peakOfBlock 121 = .ok (.lload 8, 2) := by decide +kernel
theorem dX5_peakOfBlock_123 : decode cX5_peakOfBlock 123 = .ok (.lreturn, 1) := by decide +kernel
theorem dX5_takeTried_0 : decode cX5_takeTried 0 = .ok (.aload_n 0, 1) := by decide +kernel
theorem dX5_takeTried_1 : decode cX5_takeTried 1 = .ok (.iconst 1, 1) := by decide +kernel
theorem dX5_takeTried_2 : decode cX5_takeTried 2 = .ok (.putfield 24, 3) := by decide +kernel
theorem dX5_takeTried_5 : decode cX5_takeTried 5 = .ok (.aload_n 0, 1) := by decide +kernel
theorem dX5_takeTried_6 : decode cX5_takeTried 6 = .ok (.lload_n 1, 1) := by decide +kernel
theorem dX5_takeTried_7 : decode cX5_takeTried 7 = .ok (.putfield 28, 3) := by decide +kernel
theorem dX5_takeTried_10 : decode cX5_takeTried 10 = .ok (.aload_n 0, 1) := by decide +kernel
theorem dX5_takeTried_11 : decode cX5_takeTried 11 = .ok (.getfield 17, 3) := by decide +kernel
theorem dX5_takeTried_14 : decode cX5_takeTried 14 = .ok (.iconst 0, 1) := by decide +kernel
theorem dX5_takeTried_15 : decode cX5_takeTried 15 = .ok (.aload_n 0, 1) := by decide +kernel
theorem dX5_takeTried_16 : decode cX5_takeTried 16 = .ok (.getfield 21, 3) := by decide +kernel
theorem dX5_takeTried_19 : decode cX5_takeTried 19 = .ok (.iconst 0, 1) := by decide +kernel
theorem dX5_takeTried_20 : decode cX5_takeTried 20 = .ok (.iconst 4, 1) := by decide +kernel
theorem dX5_takeTried_21 : decode cX5_takeTried 21 = .ok (.invokestatic 113, 3) := by decide +kernel
theorem dX5_takeTried_24 : decode cX5_takeTried 24 = .ok (.return_, 1) := by decide +kernel
theorem dX8_rainAhead_0 : decode cX8_rainAhead 0 = .ok (.iload_n 1, 1) := by decide +kernel
theorem dX8_rainAhead_1 : decode cX8_rainAhead 1 = .ok (.invokestatic 25, 3) := by decide +kernel
theorem dX8_rainAhead_4 : decode cX8_rainAhead 4 = .ok (.ifCond .ne 13, 3) := by decide +kernel
theorem dX8_rainAhead_7 : decode cX8_rainAhead 7 = .ok (.iload_n 2, 1) := by decide +kernel
theorem dX8_rainAhead_8 : decode cX8_rainAhead 8 = .ok (.iconst 0, 1) := by decide +kernel
theorem dX8_rainAhead_9 : decode cX8_rainAhead 9 = .ok (.bipush 23, 2) := by decide +kernel
theorem dX8_rainAhead_11 : decode cX8_rainAhead 11 = .ok (.invokestatic 29, 3) := by decide +kernel
theorem dX8_rainAhead_14 : decode cX8_rainAhead 14 = .ok (.ifCond .eq 7, 3) := by decide +kernel
theorem dX8_rainAhead_17 : decode cX8_rainAhead 17 = .ok (.iconst 0, 1) := by decide +kernel
theorem dX8_rainAhead_18 : decode cX8_rainAhead 18 = .ok (.goto 14, 3) := by decide +kernel
theorem dX8_rainAhead_21 : decode cX8_rainAhead 21 = .ok (.aload_n 0, 1) := by decide +kernel
theorem dX8_rainAhead_22 : decode cX8_rainAhead 22 = .ok (.getfield 18, 3) := by decide +kernel
theorem dX8_rainAhead_25 : decode cX8_rainAhead 25 = .ok (.iload_n 1, 1) := by decide +kernel
theorem dX8_rainAhead_26 : decode cX8_rainAhead 26 = .ok (.bipush 24, 2) := by decide +kernel
theorem dX8_rainAhead_28 : decode cX8_rainAhead 28 = .ok (.imul, 1) := by decide +kernel
theorem dX8_rainAhead_29 : decode cX8_rainAhead 29 = .ok (.iload_n 2, 1) := by decide +kernel
theorem dX8_rainAhead_30 : decode cX8_rainAhead 30 = .ok (.iadd, 1) := by decide +kernel
theorem dX8_rainAhead_31 : decode cX8_rainAhead 31 = .ok (.iaload, 1) := by decide +kernel
theorem dX8_rainAhead_32 : decode cX8_rainAhead 32 = .ok (.ireturn, 1) := by decide +kernel
theorem dX8_weightOfAll_0 : decode cX8_weightOfAll 0 = .ok (.iconst 0, 1) := by decide +kernel
theorem dX8_weightOfAll_1 : decode cX8_weightOfAll 1 = .ok (.istore_n 1, 1) := by decide +kernel
theorem dX8_weightOfAll_2 : decode cX8_weightOfAll 2 = .ok (.iconst 0, 1) := by decide +kernel
theorem dX8_weightOfAll_3 : decode cX8_weightOfAll 3 = .ok (.istore_n 2, 1) := by decide +kernel
theorem dX8_weightOfAll_4 : decode cX8_weightOfAll 4 = .ok (.iload_n 2, 1) := by decide +kernel
theorem dX8_weightOfAll_5 : decode cX8_weightOfAll 5 = .ok (.iconst 4, 1) := by decide +kernel
theorem dX8_weightOfAll_6 : decode cX8_weightOfAll 6 = .ok (.if_icmp .ge 18, 3) := by decide +kernel
theorem dX8_weightOfAll_9 : decode cX8_weightOfAll 9 = .ok (.iload_n 1, 1) := by decide +kernel
theorem dX8_weightOfAll_10 : decode cX8_weightOfAll 10 = .ok (.aload_n 0, 1) := by decide +kernel
theorem dX8_weightOfAll_11 : decode cX8_weightOfAll 11 = .ok (.getfield 9, 3) := by decide +kernel
theorem dX8_weightOfAll_14 : decode cX8_weightOfAll 14 = .ok (.iload_n 2, 1) := by decide +kernel
theorem dX8_weightOfAll_15 : decode cX8_weightOfAll 15 = .ok (.iaload, 1) := by decide +kernel
theorem dX8_weightOfAll_16 : decode cX8_weightOfAll 16 = .ok (.iadd, 1) := by decide +kernel
theorem dX8_weightOfAll_17 : decode cX8_weightOfAll 17 = .ok (.istore_n 1, 1) := by decide +kernel
theorem dX8_weightOfAll_18 : decode cX8_weightOfAll 18 = .ok (.iinc 2 1, 3) := by decide +kernel
theorem dX8_weightOfAll_21 : decode cX8_weightOfAll 21 = .ok (.goto (-17), 3) := by decide +kernel
theorem dX8_weightOfAll_24 : decode cX8_weightOfAll 24 = .ok (.iload_n 1, 1) := by decide +kernel
theorem dX8_weightOfAll_25 : decode cX8_weightOfAll 25 = .ok (.ireturn, 1) := by decide +kernel
theorem dX8_enter_0 : decode cX8_enter 0 = .ok (.iload_n 1, 1) := by decide +kernel
theorem dX8_enter_1 : decode cX8_enter 1 = .ok (.ifCond .eq 24, 3) := by decide +kernel
theorem dX8_enter_4 : decode cX8_enter 4 = .ok (.aload_n 0, 1) := by decide +kernel
theorem dX8_enter_5 : decode cX8_enter 5 = .ok (.getfield 15, 3) := by decide +kernel
theorem dX8_enter_8 : decode cX8_enter 8 = .ok (.iload_n 2, 1) := by decide +kernel
theorem dX8_enter_9 : decode cX8_enter 9 = .ok (.ifCond .eq 7, 3) := by decide +kernel
theorem dX8_enter_12 : decode cX8_enter 12 = .ok (.iconst 0, 1) := by decide +kernel
theorem dX8_enter_13 : decode cX8_enter 13 = .ok (.goto 4, 3) := by decide +kernel
theorem dX8_enter_16 : decode cX8_enter 16 = .ok (.iconst 1, 1) := by decide +kernel
theorem dX8_enter_17 : decode cX8_enter 17 = .ok (.dup2, 1) := by decide +kernel
theorem dX8_enter_18 : decode cX8_enter 18 = .ok (.iaload, 1) := by decide +kernel
theorem dX8_enter_19 : decode cX8_enter 19 = .ok (.iconst 1, 1) := by decide +kernel
theorem dX8_enter_20 : decode cX8_enter 20 = .ok (.iadd, 1) := by decide +kernel
theorem dX8_enter_21 : decode cX8_enter 21 = .ok (.iastore, 1) := by decide +kernel
theorem dX8_enter_22 : decode cX8_enter 22 = .ok (.goto 21, 3) := by decide +kernel
theorem dX8_enter_25 : decode cX8_enter 25 = .ok (.aload_n 0, 1) := by decide +kernel
theorem dX8_enter_26 : decode cX8_enter 26 = .ok (.getfield 15, 3) := by decide +kernel
theorem dX8_enter_29 : decode cX8_enter 29 = .ok (.iload_n 2, 1) := by decide +kernel
theorem dX8_enter_30 : decode cX8_enter 30 = .ok (.ifCond .eq 7, 3) := by decide +kernel
theorem dX8_enter_33 : decode cX8_enter 33 = .ok (.iconst 2, 1) := by decide +kernel
theorem dX8_enter_34 : decode cX8_enter 34 = .ok (.goto 4, 3) := by decide +kernel
theorem dX8_enter_37 : decode cX8_enter 37 = .ok (.iconst 3, 1) := by decide +kernel
theorem dX8_enter_38 : decode cX8_enter 38 = .ok (.dup2, 1) := by decide +kernel
theorem dX8_enter_39 : decode cX8_enter 39 = .ok (.iaload, 1) := by decide +kernel
theorem dX8_enter_40 : decode cX8_enter 40 = .ok (.iconst 1, 1) := by decide +kernel
theorem dX8_enter_41 : decode cX8_enter 41 = .ok (.iadd, 1) := by decide +kernel
theorem dX8_enter_42 : decode cX8_enter 42 = .ok (.iastore, 1) := by decide +kernel
theorem dX8_enter_43 : decode cX8_enter 43 = .ok (.return_, 1) := by decide +kernel
def uX0_goHourBy : List Cond := .code yX0_goHourBy cX0_goHourBy 3 none :: ([.fieldLink RX0 35 "RiverModel$Course" "hours" "I", .methodLink RX0 60 yX6_rainIn, .instanceMethod yX6_rainIn, .selects RX6 yX6_rainIn yX6_rainIn, .initialized RX6, .methodLink RX0 65 yX6_tempIn, .instanceMethod yX6_tempIn, .selects RX6 yX6_tempIn yX6_tempIn, .methodLink RX0 68 yX0_goHour, .instanceMethod yX0_goHour, .selects RX0 yX0_goHour yX0_goHour, .initialized RX0, .code yX6_rainIn cX6_rainIn 2 (some .int), .initialized RX9, .static yX9_isOutside, .fieldLink RX6 9 "RiverModel$Sky" "rains" "[I", .code yX9_isOutside cX9_isOutside 3 (some .boolean), .code yX6_tempIn cX6_tempIn 2 (some .int), .fieldLink RX6 15 "RiverModel$Sky" "temps" "[I", .code yX0_goHour cX0_goHour 7 none, .methodLink RX0 72 yX0_bringDue, .instanceMethod yX0_bringDue, .selects RX0 yX0_bringDue yX0_bringDue, .fieldLink RX0 75 "RiverModel$Model" "many" "I", .methodLink RX0 78 yX0_amountOf, .instanceMethod yX0_amountOf, .selects RX0 yX0_amountOf yX0_amountOf, .fieldLink RX0 15 "RiverModel$Course" "moved" "[J", .methodLink RX0 82 yX0_move, .instanceMethod yX0_move, .selects RX0 yX0_move yX0_move, .code yX0_bringDue cX0_bringDue 3 none, .fieldLink RX0 9 "RiverModel$Course" "held" "[J", .fieldLink RX0 22 "RiverModel$Course" "due" "[J", .code yX0_amountOf cX0_amountOf 11 (some .long), .methodLink RX0 86 yX4_cell, .instanceMethod yX4_cell, .selects RX4 yX4_cell yX4_cell, .initialized RX4, .static yX9_isNoStore, .methodLink RX0 110 yX4_gateOf, .instanceMethod yX4_gateOf, .selects RX4 yX4_gateOf yX4_gateOf, .methodLink RX0 113 yX0_openingOf, .instanceMethod yX0_openingOf, .selects RX0 yX0_openingOf yX0_openingOf, .methodLink RX0 107 Lib.MathLoose.min_long.x, .static Lib.MathLoose.min_long.x, .initialized "java/lang/Math", .code Lib.MathLoose.min_long.x Lib.MathLoose.min_long.code 4 (some .long), .methodLink RX0 94 yX0_leakOf, .static yX0_leakOf, .constantLong RX0 117 (100), .methodLink RX0 98 yX4_capacityOf, .instanceMethod yX4_capacityOf, .selects RX4 yX4_capacityOf yX4_capacityOf, .methodLink RX0 101 Lib.MathLoose.max_long.x, .static Lib.MathLoose.max_long.x, .code Lib.MathLoose.max_long.x Lib.MathLoose.max_long.code 4 (some .long), .constantLong RX0 119 (10), .code yX4_cell cX4_cell 3 (some .int), .fieldLink RX4 9 "RiverModel$Model" "cells" "[I", .code yX9_isNoStore cX9_isNoStore 1 (some .boolean), .code yX4_gateOf cX4_gateOf 3 (some .int), .fieldLink RX4 28 "RiverModel$Model" "gates" "I", .fieldLink RX4 18 "RiverModel$Model" "gateItems" "[I", .code yX0_openingOf cX0_openingOf 2 (some .long), .static yX9_isNoGate, .fieldLink RX0 18 "RiverModel$Course" "openings" "[I", .code yX9_isNoGate cX9_isNoGate 1 (some .boolean), .code yX0_leakOf cX0_leakOf 8 (some .long), .code yX4_capacityOf cX4_capacityOf 2 (some .int), .methodLink RX4 66 yX4_hasStore, .instanceMethod yX4_hasStore, .selects RX4 yX4_hasStore yX4_hasStore, .fieldLink RX4 15 "RiverModel$Model" "storeItems" "[I", .methodLink RX4 73 yX4_cell, .code yX4_hasStore cX4_hasStore 2 (some .boolean), .code yX0_move cX0_move 8 none, .fieldLink RX0 25 "RiverModel$Course" "rained" "J", .methodLink RX0 124 yX0_send, .instanceMethod yX0_send, .selects RX0 yX0_send yX0_send, .fieldLink RX0 32 "RiverModel$Course" "sea" "J", .fieldLink RX0 29 "RiverModel$Course" "air" "J", .code yX0_send cX0_send 5 none] ++ wsX00 ++ wsX60 ++ wsX40)
set_option maxRecDepth 20000 in
theorem gu_X0_goHourBy_X6_rainIn_60 : GoodIn uX0_goHourBy (wsV RX0 60 RX6 yX6_rainIn uX6_rainIn) := goodIn_r _ [2, 3, 4, 5, 13, 14, 15, 16, 17, 95, 96] rfl (by decide +kernel)
set_option maxRecDepth 20000 in
theorem gu_X0_goHourBy_X6_tempIn_65 : GoodIn uX0_goHourBy (wsV RX0 65 RX6 yX6_tempIn uX6_tempIn) := goodIn_r _ [6, 7, 8, 5, 18, 14, 15, 19, 17, 95, 96] rfl (by decide +kernel)
set_option maxRecDepth 20000 in
theorem gu_X0_goHourBy_X0_goHour_68 : GoodIn uX0_goHourBy (wsV RX0 68 RX0 yX0_goHour uX0_goHour) := goodIn_r _ [9, 10, 11, 12, 20, 21, 22, 23, 12, 1, 24, 25, 26, 27, 28, 29, 30, 31, 32, 33, 34, 35, 36, 37, 38, 39, 14, 40, 41, 42, 43, 44, 45, 46, 47, 48, 49, 50, 51, 52, 53, 54, 55, 56, 57, 58, 59, 60, 61, 62, 63, 64, 65, 66, 67, 68, 69, 70, 71, 72, 73, 74, 75, 76, 77, 78, 79, 80, 81, 82, 83, 84, 85, 86, 15, 17, 87, 88, 89, 90, 91, 92, 93, 94, 97, 98, 99, 100, 101, 102] rfl (by decide +kernel)
set_option maxHeartbeats 4000000 in
set_option maxRecDepth 100000 in
theorem s_X0_goHourBy (l : Launch) (D : va_G) (t : Nat → Nat) (cI cL cC : ClassId) (gC : Int32) (gE : Int32) (G : Nat) (gW : Nat → Int32) (gA : Nat → Int32) (a0 : Nat) (a1 : Nat) (a2 : Nat) (hGb : G ≤ 200000000) (k_a0 : t a0 = 5) (k_a1 : t a1 = 3) (k_a2 : t a2 = 4) : tM l yX0_goHourBy uX0_goHourBy 4 99 D (gF cI cL cC gC gE G gW gA) (gF cI cL cC gC gE (G + 1) gW gA) t cI cL cC [.ref a0, .ref a1, .ref a2] wrC (pV (True)) := by
  refine tM.ofW (cc := cX0_goHourBy) (maxL := 3) (ret := none) (by decide) rfl (Nat.le_of_ble_eq_true rfl) ?_
  intro p e s m below meth c hx hb hr hml hown hts hlk H locs hG hK hE hS ls hl
  have hl : lv_has ls 3 [(0, .ref a0), (1, .ref a1), (2, .ref a2)] := hl
  have in0 : ∀ w ∈ wsX00, w ∈ uX0_goHourBy := fun w h => List.mem_cons_of_mem _ (List.mem_append_left _ (List.mem_append_left _ (List.mem_append_right _ h)))
  refine lv_aload_n hx hb dX0_goHourBy_0 rfl (lv_at hl 0 rfl) ?_
  refine lv_aload_n hx hb dX0_goHourBy_1 rfl (lv_at hl 1 rfl) ?_
  refine lv_aload_n hx hb dX0_goHourBy_2 rfl (lv_at hl 2 rfl) ?_
  refine lv_aload_n hx hb dX0_goHourBy_3 rfl (lv_at hl 0 rfl) ?_
  obtain ⟨r_1, r_3, r_5, r_7, v_9, v_10, v_11, v_12, at_14, h_2, h_4, h_6, h_8, h_13⟩ := gF_o5 hG k_a0
  refine va_get (D := D) (ci := 0) (v := .int v_12) (C := RX0) (T := TX0) (N := 8) hx hb hts in0 hown hK (va_one at_14) 0 rfl rfl 7 (by decide) (hts (.fieldLink RX0 35 "RiverModel$Course" "hours" "I") (List.mem_of_getElem? (i := 1) rfl)) (fun _ h9 => h9) rfl dX0_goHourBy_4 ?_
  obtain ⟨r_15, r_17, at_19, h_16, h_18⟩ := gF_o4 hG k_a2
  refine ty_calli ((W.runV (As := [.int v_12]) (rest := [.ref a1, .ref a0]) ⟨hx, hb, hml, hown, hts⟩ (s_X6_rainIn l D t cI cL cC gC gE G gW gA a2 v_12 k_a2) (cwV 1 hts gu_X0_goHourBy_X6_rainIn_60 rfl rfl rfl (by decide +kernel) ⟨Nat.le_of_ble_eq_true rfl, Nat.le_of_ble_eq_true rfl⟩) (tP_V hG hE at_19 rfl) rfl rfl hl.1 rfl (lv_room (Nat.le_of_ble_eq_true rfl)) dX0_goHourBy_7 ⟨Nat.le_of_ble_eq_true rfl, Nat.le_of_ble_eq_true rfl⟩)) hS (fun k h => by simp [wr0] at h) (fun r_20 H locs hp_21 hG hS o_22 => ?_)
  have at_14 := va_at.keptC at_14 o_22 k_a0 rfl
  have at_19 := va_at.keptC at_19 o_22 k_a2 rfl
  refine lv_aload_n hx hb dX0_goHourBy_10 rfl (lv_at hl 2 rfl) ?_
  refine lv_pc (pc2 := 11) rfl ?_
  refine lv_aload_n hx hb dX0_goHourBy_11 rfl (lv_at hl 0 rfl) ?_
  refine va_get (D := D) (ci := 0) (v := .int v_12) (C := RX0) (T := TX0) (N := 8) hx hb hts in0 hown hK (va_one at_14) 0 rfl rfl 7 (by decide) (hts (.fieldLink RX0 35 "RiverModel$Course" "hours" "I") (List.mem_of_getElem? (i := 1) rfl)) (fun _ h9 => h9) rfl dX0_goHourBy_12 ?_
  refine ty_calli ((W.runV (As := [.int v_12]) (rest := [.int r_20, .ref a1, .ref a0]) ⟨hx, hb, hml, hown, hts⟩ (s_X6_tempIn l D t cI cL cC gC gE G gW gA a2 v_12 k_a2) (cwV 1 hts gu_X0_goHourBy_X6_tempIn_65 rfl rfl rfl (by decide +kernel) ⟨Nat.le_of_ble_eq_true rfl, Nat.le_of_ble_eq_true rfl⟩) (tP_V hG hE at_19 rfl) rfl rfl hl.1 rfl (lv_room (Nat.le_of_ble_eq_true rfl)) dX0_goHourBy_15 ⟨Nat.le_of_ble_eq_true rfl, Nat.le_of_ble_eq_true rfl⟩)) hS (fun k h => by simp [wr0] at h) (fun r_23 H locs hp_24 hG hS o_25 => ?_)
  have at_14 := va_at.keptC at_14 o_25 k_a0 rfl
  have at_19 := va_at.keptC at_19 o_25 k_a2 rfl
  refine ty_callv ((W.runV (As := [.ref a1, .int r_20, .int r_23]) (rest := []) ⟨hx, hb, hml, hown, hts⟩ (s_X0_goHour l D t cI cL cC gC gE G gW gA a0 a1 r_20 r_23 (by omega) k_a0 k_a1) (cwV 3 hts gu_X0_goHourBy_X0_goHour_68 rfl rfl rfl (by decide +kernel) ⟨Nat.le_of_ble_eq_true rfl, Nat.le_of_ble_eq_true rfl⟩) (tP_V hG hE at_14 rfl) rfl rfl hl.1 rfl (lv_room (Nat.le_of_ble_eq_true rfl)) dX0_goHourBy_18 ⟨Nat.le_of_ble_eq_true rfl, Nat.le_of_ble_eq_true rfl⟩)) hS (fun _ h => h) (fun H locs hp_27 hG hS o_28 => ?_)
  have at_19 := va_at.keptC at_19 o_28 k_a2 rfl
  exact ty_vret hx hb hr hlk hG hS True.intro dX0_goHourBy_21

def uX0_heldByAll : List Cond := .code yX0_heldByAll cX0_heldByAll 4 (some .long) :: ([.fieldLink RX0 9 "RiverModel$Course" "held" "[J"] ++ wsX00)
set_option maxHeartbeats 4000000 in
set_option maxRecDepth 100000 in
theorem s_X0_heldByAll (l : Launch) (D : va_G) (t : Nat → Nat) (cI cL cC : ClassId) (gC : Int32) (gE : Int32) (G : Nat) (gW : Nat → Int32) (gA : Nat → Int32) (a0 : Nat) (k_a0 : t a0 = 5) : tM l yX0_heldByAll uX0_heldByAll 0 0 D (gF cI cL cC gC gE G gW gA) (gF cI cL cC gC gE G gW gA) t cI cL cC [.ref a0] wr0 (pL (fun r => True)) := by
  refine tM.ofW (cc := cX0_heldByAll) (maxL := 4) (ret := (some .long)) (by decide) rfl (Nat.le_of_ble_eq_true rfl) ?_
  intro p e s m below meth c hx hb hr hml hown hts hlk H locs hG hK hE hS ls hl
  have hl : lv_has ls 4 [(0, .ref a0)] := hl
  have in0 : ∀ w ∈ wsX00, w ∈ uX0_heldByAll := fun w h => List.mem_cons_of_mem _ (List.mem_append_right _ h)
  refine lv_lconst (v := 0) hx hb dX0_heldByAll_0 (by decide) ?_
  refine lv_lstore_n (lv' := [(1, .long 0), (0, .ref a0)]) hx hb dX0_heldByAll_1 rfl hl (by decide) rfl (fun ls hl => ?_)
  refine lv_iconst (v := 0) hx hb dX0_heldByAll_2 (by decide) ?_
  refine lv_istore_n (lv' := [(3, .int 0), (1, .long 0), (0, .ref a0)]) hx hb dX0_heldByAll_3 rfl hl (by decide) rfl (fun ls hl => ?_)
  refine lv_pc (pc2 := 4) rfl ?_
  refine lp_gen (fun WW hWW => ?_)
  have kx : ∀ (yk : Int32) (ys : Int64) (H1 : Heap) (locs1 : List Loc) (ls1 : Array Slot), 0 ≤ yk.toInt → yk.toInt ≤ 16 → tG D (gF cI cL cC gC gE G gW gA) t H1 → tF t wr0 s.heap H1 locs1 → lv_has ls1 4 [(3, .int yk), (1, .long ys), (0, .ref a0)] → WW H1 locs1 (F0 m 25 ls1 []) := by
    intro yk ys H locs ls v0 v1 hG hS hl
    refine (hWW _ _ _).mpr ?_
    refine lv_lload_n hx hb dX0_heldByAll_25 rfl (lv_at hl 1 rfl) ?_
    exact ty_lret hx hb hr hlk hG hS True.intro dX0_heldByAll_26
  have loop : ∀ (k : Nat) (yk : Int32) (ys : Int64) (H1 : Heap) (locs1 : List Loc) (ls1 : Array Slot), 16 - yk.toInt ≤ (k : Int) → 0 ≤ yk.toInt → yk.toInt ≤ 16 → tG D (gF cI cL cC gC gE G gW gA) t H1 → tF t wr0 s.heap H1 locs1 → lv_has ls1 4 [(3, .int yk), (1, .long ys), (0, .ref a0)] → WW H1 locs1 (F0 m 4 ls1 []) := by
    intro k
    induction k with
    | zero =>
      intro yk ys H locs ls hk v0 v1 hG hS hl
      refine (hWW _ _ _).mpr ?_
      refine lv_iload_n hx hb dX0_heldByAll_4 rfl (lv_at hl 0 rfl) ?_
      refine lv_pc (pc2 := 5) rfl ?_
      refine lv_bipush (v := 16) hx hb dX0_heldByAll_5 (by decide) ?_
      refine lv_icmp_ge (tgt := 25) hx hb dX0_heldByAll_7 (by decide) (fun c_1 => ?_) (fun c_1 => ?_)
      · skip
        have c_1 : 16 ≤ yk.toInt := q_le c_1
        exact (hWW _ _ _).mp (kx yk ys H locs ls (by omega) (by omega) hG hS (lv_sub hl [0, 1, 2] rfl))
      · skip
        have c_1 : yk.toInt < 16 := q_nle c_1
        refine lv_lload_n hx hb dX0_heldByAll_10 rfl (lv_at hl 1 rfl) ?_
        refine lv_aload_n hx hb dX0_heldByAll_11 rfl (lv_at hl 2 rfl) ?_
        obtain ⟨r_2, r_4, r_6, r_8, v_10, v_11, v_12, v_13, at_15, h_3, h_5, h_7, h_9, h_14⟩ := gF_o5 hG k_a0
        refine va_get (D := D) (ci := 0) (v := .ref r_2) (C := RX0) (T := TX0) (N := 8) hx hb hts in0 hown hK (va_one at_15) 0 rfl rfl 0 (by decide) (hts (.fieldLink RX0 9 "RiverModel$Course" "held" "[J") (List.mem_of_getElem? (i := 1) rfl)) (fun _ h9 => h9) rfl dX0_heldByAll_12 ?_
        refine lv_iload_n hx hb dX0_heldByAll_15 rfl (lv_at hl 0 rfl) ?_
        obtain ⟨f_16, at_17⟩ := gF_o17 hG h_3
        have b_18 : vp_in yk 16 := (q_in (by omega) (by omega))
        refine va_lald hx hb hK (va_one at_17) 0 1 rfl rfl b_18 dX0_heldByAll_16 ?_
        refine lv_topl (fun z_19 e_20 => ?_)
        refine lv_ladd hx hb dX0_heldByAll_17 ?_
        refine lv_topl (fun z_21 e_22 => ?_)
        refine lv_pc (pc2 := 18) rfl ?_
        refine lv_lstore_n (lv' := [(1, .long z_21), (3, .int yk), (0, .ref a0)]) hx hb dX0_heldByAll_18 rfl hl (by decide) rfl (fun ls hl => ?_)
        obtain ⟨x_23, e_24⟩ : ∃ y : Int32, y = yk + Int32.ofInt 1 := ⟨_, rfl⟩
        have i_x_23 : x_23.toInt = yk.toInt + 1 := by rw [e_24, show Int32.ofInt 1 = 1 by decide]; exact (q_add (by rw [show (1 : Int32).toInt = 1 by decide]; omega) (by rw [show (1 : Int32).toInt = 1 by decide]; omega)).trans (by rw [show (1 : Int32).toInt = 1 by decide])
        refine lv_iinc (v := x_23) (lv' := [(3, .int x_23), (1, .long z_21), (0, .ref a0)]) hx hb dX0_heldByAll_19 hl (k := 1) rfl e_24.symm (by decide) rfl (fun ls hl => ?_)
        refine lv_goto (tgt := 4) hx hb dX0_heldByAll_22 (by decide) ?_
        exfalso; omega
    | succ k ih =>
      intro yk ys H locs ls hk v0 v1 hG hS hl
      refine (hWW _ _ _).mpr ?_
      refine lv_iload_n hx hb dX0_heldByAll_4 rfl (lv_at hl 0 rfl) ?_
      refine lv_bipush (v := 16) hx hb dX0_heldByAll_5 (by decide) ?_
      refine lv_icmp_ge (tgt := 25) hx hb dX0_heldByAll_7 (by decide) (fun c_25 => ?_) (fun c_25 => ?_)
      · skip
        have c_25 : 16 ≤ yk.toInt := q_le c_25
        exact (hWW _ _ _).mp (kx yk ys H locs ls (by omega) (by omega) hG hS (lv_sub hl [0, 1, 2] rfl))
      · skip
        have c_25 : yk.toInt < 16 := q_nle c_25
        refine lv_lload_n hx hb dX0_heldByAll_10 rfl (lv_at hl 1 rfl) ?_
        refine lv_aload_n hx hb dX0_heldByAll_11 rfl (lv_at hl 2 rfl) ?_
        refine lv_pc (pc2 := 12) rfl ?_
        obtain ⟨r_26, r_28, r_30, r_32, v_34, v_35, v_36, v_37, at_39, h_27, h_29, h_31, h_33, h_38⟩ := gF_o5 hG k_a0
        refine va_get (D := D) (ci := 0) (v := .ref r_26) (C := RX0) (T := TX0) (N := 8) hx hb hts in0 hown hK (va_one at_39) 0 rfl rfl 0 (by decide) (hts (.fieldLink RX0 9 "RiverModel$Course" "held" "[J") (List.mem_of_getElem? (i := 1) rfl)) (fun _ h9 => h9) rfl dX0_heldByAll_12 ?_
        refine lv_iload_n hx hb dX0_heldByAll_15 rfl (lv_at hl 0 rfl) ?_
        obtain ⟨f_40, at_41⟩ := gF_o17 hG h_27
        have b_42 : vp_in yk 16 := (q_in (by omega) (by omega))
        refine va_lald hx hb hK (va_one at_41) 0 1 rfl rfl b_42 dX0_heldByAll_16 ?_
        refine lv_topl (fun z_43 e_44 => ?_)
        refine lv_ladd hx hb dX0_heldByAll_17 ?_
        refine lv_topl (fun z_45 e_46 => ?_)
        refine lv_lstore_n (lv' := [(1, .long z_45), (3, .int yk), (0, .ref a0)]) hx hb dX0_heldByAll_18 rfl hl (by decide) rfl (fun ls hl => ?_)
        obtain ⟨x_47, e_48⟩ : ∃ y : Int32, y = yk + Int32.ofInt 1 := ⟨_, rfl⟩
        have i_x_47 : x_47.toInt = yk.toInt + 1 := by rw [e_48, show Int32.ofInt 1 = 1 by decide]; exact (q_add (by rw [show (1 : Int32).toInt = 1 by decide]; omega) (by rw [show (1 : Int32).toInt = 1 by decide]; omega)).trans (by rw [show (1 : Int32).toInt = 1 by decide])
        refine lv_iinc (v := x_47) (lv' := [(3, .int x_47), (1, .long z_45), (0, .ref a0)]) hx hb dX0_heldByAll_19 hl (k := 1) rfl e_48.symm (by decide) rfl (fun ls hl => ?_)
        refine lv_goto (tgt := 4) hx hb dX0_heldByAll_22 (by decide) ?_
        exact (hWW _ _ _).mp (ih x_47 z_45 H locs ls (by omega) (by omega) (by omega) hG hS (lv_sub hl [0, 1, 2] rfl))
  have hz_yk : (0 : Int32).toInt = 0 := by decide
  exact loop (16 - 0 : Int).toNat 0 0 H locs ls (by omega) (by omega) (by omega) hG hS (lv_sub hl [0, 1, 2] rfl)

def uX0_underWayTo : List Cond := .code yX0_underWayTo cX0_underWayTo 5 (some .long) :: ([.initialized RX9, .static yX9_isNoStore, .fieldLink RX0 22 "RiverModel$Course" "due" "[J", .code yX9_isNoStore cX9_isNoStore 1 (some .boolean)] ++ wsX00)
set_option maxRecDepth 20000 in
theorem gu_X0_underWayTo_X9_isNoStore_n : GoodIn uX0_underWayTo (uX9_isNoStore) := goodIn_r _ [4] rfl (by decide +kernel)
set_option maxHeartbeats 4000000 in
set_option maxRecDepth 100000 in
theorem s_X0_underWayTo (l : Launch) (D : va_G) (t : Nat → Nat) (cI cL cC : ClassId) (gC : Int32) (gE : Int32) (G : Nat) (gW : Nat → Int32) (gA : Nat → Int32) (a0 : Nat) (a1 : Int32) (k_a0 : t a0 = 5) : tM l yX0_underWayTo uX0_underWayTo 1 20 D (gF cI cL cC gC gE G gW gA) (gF cI cL cC gC gE G gW gA) t cI cL cC [.ref a0, .int a1] wr0 (pL (fun r => True)) := by
  refine tM.ofW (cc := cX0_underWayTo) (maxL := 5) (ret := (some .long)) (by decide) rfl (Nat.le_of_ble_eq_true rfl) ?_
  intro p e s m below meth c hx hb hr hml hown hts hlk H locs hG hK hE hS ls hl
  have hl : lv_has ls 5 [(0, .ref a0), (1, .int a1)] := hl
  have in0 : ∀ w ∈ wsX00, w ∈ uX0_underWayTo := fun w h => List.mem_cons_of_mem _ (List.mem_append_right _ h)
  refine lv_lconst (v := 0) hx hb dX0_underWayTo_0 (by decide) ?_
  refine lv_lstore_n (lv' := [(2, .long 0), (0, .ref a0), (1, .int a1)]) hx hb dX0_underWayTo_1 rfl hl (by decide) rfl (fun ls hl => ?_)
  refine lv_iconst (v := 0) hx hb dX0_underWayTo_2 (by decide) ?_
  refine lv_istore (lv' := [(4, .int 0), (2, .long 0), (0, .ref a0), (1, .int a1)]) hx hb dX0_underWayTo_3 hl (by decide) rfl (fun ls hl => ?_)
  refine lv_pc (pc2 := 5) rfl ?_
  refine lp_gen (fun WW hWW => ?_)
  have kx : ∀ (yk : Int32) (ys : Int64) (H1 : Heap) (locs1 : List Loc) (ls1 : Array Slot), 0 ≤ yk.toInt → yk.toInt ≤ 13 → tG D (gF cI cL cC gC gE G gW gA) t H1 → tF t wr0 s.heap H1 locs1 → lv_has ls1 5 [(4, .int yk), (2, .long ys), (0, .ref a0), (1, .int a1)] → WW H1 locs1 (F0 m 40 ls1 []) := by
    intro yk ys H locs ls v0 v1 hG hS hl
    refine (hWW _ _ _).mpr ?_
    refine lv_lload_n hx hb dX0_underWayTo_40 rfl (lv_at hl 1 rfl) ?_
    exact ty_lret hx hb hr hlk hG hS True.intro dX0_underWayTo_41
  have loop : ∀ (k : Nat) (yk : Int32) (ys : Int64) (H1 : Heap) (locs1 : List Loc) (ls1 : Array Slot), 13 - yk.toInt ≤ (k : Int) → 0 ≤ yk.toInt → yk.toInt ≤ 13 → tG D (gF cI cL cC gC gE G gW gA) t H1 → tF t wr0 s.heap H1 locs1 → lv_has ls1 5 [(4, .int yk), (2, .long ys), (0, .ref a0), (1, .int a1)] → WW H1 locs1 (F0 m 5 ls1 []) := by
    intro k
    induction k with
    | zero =>
      intro yk ys H locs ls hk v0 v1 hG hS hl
      refine (hWW _ _ _).mpr ?_
      refine lv_iload hx hb dX0_underWayTo_5 (lv_at hl 0 rfl) ?_
      refine lv_pc (pc2 := 7) rfl ?_
      refine lv_bipush (v := 13) hx hb dX0_underWayTo_7 (by decide) ?_
      refine lv_icmp_ge (tgt := 40) hx hb dX0_underWayTo_9 (by decide) (fun c_1 => ?_) (fun c_1 => ?_)
      · skip
        have c_1 : 13 ≤ yk.toInt := q_le c_1
        exact (hWW _ _ _).mp (kx yk ys H locs ls (by omega) (by omega) hG hS (lv_sub hl [0, 1, 2, 3] rfl))
      · skip
        have c_1 : yk.toInt < 13 := q_nle c_1
        refine lv_iload_n hx hb dX0_underWayTo_12 rfl (lv_at hl 3 rfl) ?_
        refine ty_calli (tRun (va_runSN (As := [.int a1]) (rest := []) ⟨hx, hb, hml, hown, hts⟩ (s_X9_isNoStore l D t cI cL cC gC gE G gW gA a1 ) ⟨(va_cnB 1 hts gu_X0_underWayTo_X9_isNoStore_n rfl rfl rfl (hE.2.1 _ (List.mem_of_getElem? (i := 12) rfl)) (hts (.initialized RX9) (List.mem_of_getElem? (i := 1) rfl)) (by decide +kernel) ⟨Nat.le_of_ble_eq_true rfl, Nat.le_of_ble_eq_true rfl⟩), (hts (.static yX9_isNoStore) (List.mem_of_getElem? (i := 2) rfl)), trivial⟩ (tP_S hG hE) rfl rfl hl.1 rfl (lv_room (Nat.le_of_ble_eq_true rfl)) dX0_underWayTo_13 ⟨Nat.le_of_ble_eq_true rfl, Nat.le_of_ble_eq_true rfl⟩)) hS (fun _ h => h) (fun r_2 H locs hp_3 hG hS o_4 => ?_)
        rcases hp_3 with ⟨rfl, hc_48⟩ | ⟨rfl, hc_49, hc_50⟩
        · skip
          refine lv_if_ne (tgt := 40) hx hb dX0_underWayTo_16 (by decide) (fun _ => ?_) (fun q => absurd q (by decide))
          exact (hWW _ _ _).mp (kx yk ys H locs ls (by omega) (by omega) hG hS (lv_sub hl [0, 1, 2, 3] rfl))
        · skip
          refine lv_if_ne (tgt := 40) hx hb dX0_underWayTo_16 (by decide) (fun q => absurd rfl q) (fun _ => ?_)
          refine lv_lload_n hx hb dX0_underWayTo_19 rfl (lv_at hl 1 rfl) ?_
          refine lv_aload_n hx hb dX0_underWayTo_20 rfl (lv_at hl 2 rfl) ?_
          refine lv_pc (pc2 := 21) rfl ?_
          obtain ⟨r_5, r_7, r_9, r_11, v_13, v_14, v_15, v_16, at_18, h_6, h_8, h_10, h_12, h_17⟩ := gF_o5 hG k_a0
          refine va_get (D := D) (ci := 0) (v := .ref r_11) (C := RX0) (T := TX0) (N := 8) hx hb hts in0 hown hK (va_one at_18) 0 rfl rfl 3 (by decide) (hts (.fieldLink RX0 22 "RiverModel$Course" "due" "[J") (List.mem_of_getElem? (i := 3) rfl)) (fun _ h9 => h9) rfl dX0_underWayTo_21 ?_
          refine lv_iload hx hb dX0_underWayTo_24 (lv_at hl 0 rfl) ?_
          refine lv_bipush (v := 16) hx hb dX0_underWayTo_26 (by decide) ?_
          refine lv_imul hx hb dX0_underWayTo_28 ?_
          refine lv_topi (fun x_19 e_20 => ?_)
          have i_x_19 : x_19.toInt = yk.toInt * 16 := by rw [e_20]; exact (q_mul (by rw [show (16 : Int32).toInt = 16 by decide]; omega) (by rw [show (16 : Int32).toInt = 16 by decide]; omega)).trans (by rw [show (16 : Int32).toInt = 16 by decide])
          refine lv_iload_n hx hb dX0_underWayTo_29 rfl (lv_at hl 3 rfl) ?_
          refine lv_iadd hx hb dX0_underWayTo_30 ?_
          refine lv_topi (fun x_21 e_22 => ?_)
          have i_x_21 : x_21.toInt = x_19.toInt + a1.toInt := by rw [e_22]; exact (q_add (by omega) (by omega)).trans (by rfl)
          obtain ⟨f_23, at_24⟩ := gF_o20 hG h_12
          have b_25 : vp_in x_21 208 := (q_in (by omega) (by omega))
          refine va_lald hx hb hK (va_one at_24) 0 1 rfl rfl b_25 dX0_underWayTo_31 ?_
          refine lv_topl (fun z_26 e_27 => ?_)
          refine lv_ladd hx hb dX0_underWayTo_32 ?_
          refine lv_topl (fun z_28 e_29 => ?_)
          refine lv_pc (pc2 := 33) rfl ?_
          refine lv_lstore_n (lv' := [(2, .long z_28), (4, .int yk), (0, .ref a0), (1, .int a1)]) hx hb dX0_underWayTo_33 rfl hl (by decide) rfl (fun ls hl => ?_)
          obtain ⟨x_30, e_31⟩ : ∃ y : Int32, y = yk + Int32.ofInt 1 := ⟨_, rfl⟩
          have i_x_30 : x_30.toInt = yk.toInt + 1 := by rw [e_31, show Int32.ofInt 1 = 1 by decide]; exact (q_add (by rw [show (1 : Int32).toInt = 1 by decide]; omega) (by rw [show (1 : Int32).toInt = 1 by decide]; omega)).trans (by rw [show (1 : Int32).toInt = 1 by decide])
          refine lv_iinc (v := x_30) (lv' := [(4, .int x_30), (2, .long z_28), (0, .ref a0), (1, .int a1)]) hx hb dX0_underWayTo_34 hl (k := 1) rfl e_31.symm (by decide) rfl (fun ls hl => ?_)
          refine lv_goto (tgt := 5) hx hb dX0_underWayTo_37 (by decide) ?_
          exfalso; omega
    | succ k ih =>
      intro yk ys H locs ls hk v0 v1 hG hS hl
      refine (hWW _ _ _).mpr ?_
      refine lv_iload hx hb dX0_underWayTo_5 (lv_at hl 0 rfl) ?_
      refine lv_bipush (v := 13) hx hb dX0_underWayTo_7 (by decide) ?_
      refine lv_icmp_ge (tgt := 40) hx hb dX0_underWayTo_9 (by decide) (fun c_32 => ?_) (fun c_32 => ?_)
      · skip
        have c_32 : 13 ≤ yk.toInt := q_le c_32
        exact (hWW _ _ _).mp (kx yk ys H locs ls (by omega) (by omega) hG hS (lv_sub hl [0, 1, 2, 3] rfl))
      · skip
        have c_32 : yk.toInt < 13 := q_nle c_32
        refine lv_iload_n hx hb dX0_underWayTo_12 rfl (lv_at hl 3 rfl) ?_
        refine ty_calli (tRun (va_runSN (As := [.int a1]) (rest := []) ⟨hx, hb, hml, hown, hts⟩ (s_X9_isNoStore l D t cI cL cC gC gE G gW gA a1 ) ⟨(va_cnB 1 hts gu_X0_underWayTo_X9_isNoStore_n rfl rfl rfl (hE.2.1 _ (List.mem_of_getElem? (i := 12) rfl)) (hts (.initialized RX9) (List.mem_of_getElem? (i := 1) rfl)) (by decide +kernel) ⟨Nat.le_of_ble_eq_true rfl, Nat.le_of_ble_eq_true rfl⟩), (hts (.static yX9_isNoStore) (List.mem_of_getElem? (i := 2) rfl)), trivial⟩ (tP_S hG hE) rfl rfl hl.1 rfl (lv_room (Nat.le_of_ble_eq_true rfl)) dX0_underWayTo_13 ⟨Nat.le_of_ble_eq_true rfl, Nat.le_of_ble_eq_true rfl⟩)) hS (fun _ h => h) (fun r_33 H locs hp_34 hG hS o_35 => ?_)
        rcases hp_34 with ⟨rfl, hc_51⟩ | ⟨rfl, hc_52, hc_53⟩
        · skip
          refine lv_pc (pc2 := 16) rfl ?_
          refine lv_if_ne (tgt := 40) hx hb dX0_underWayTo_16 (by decide) (fun _ => ?_) (fun q => absurd q (by decide))
          exact (hWW _ _ _).mp (kx yk ys H locs ls (by omega) (by omega) hG hS (lv_sub hl [0, 1, 2, 3] rfl))
        · skip
          refine lv_if_ne (tgt := 40) hx hb dX0_underWayTo_16 (by decide) (fun q => absurd rfl q) (fun _ => ?_)
          refine lv_lload_n hx hb dX0_underWayTo_19 rfl (lv_at hl 1 rfl) ?_
          refine lv_aload_n hx hb dX0_underWayTo_20 rfl (lv_at hl 2 rfl) ?_
          obtain ⟨r_36, r_38, r_40, r_42, v_44, v_45, v_46, v_47, at_49, h_37, h_39, h_41, h_43, h_48⟩ := gF_o5 hG k_a0
          refine va_get (D := D) (ci := 0) (v := .ref r_42) (C := RX0) (T := TX0) (N := 8) hx hb hts in0 hown hK (va_one at_49) 0 rfl rfl 3 (by decide) (hts (.fieldLink RX0 22 "RiverModel$Course" "due" "[J") (List.mem_of_getElem? (i := 3) rfl)) (fun _ h9 => h9) rfl dX0_underWayTo_21 ?_
          refine lv_iload hx hb dX0_underWayTo_24 (lv_at hl 0 rfl) ?_
          refine lv_bipush (v := 16) hx hb dX0_underWayTo_26 (by decide) ?_
          refine lv_imul hx hb dX0_underWayTo_28 ?_
          refine lv_topi (fun x_50 e_51 => ?_)
          have i_x_50 : x_50.toInt = yk.toInt * 16 := by rw [e_51]; exact (q_mul (by rw [show (16 : Int32).toInt = 16 by decide]; omega) (by rw [show (16 : Int32).toInt = 16 by decide]; omega)).trans (by rw [show (16 : Int32).toInt = 16 by decide])
          refine lv_pc (pc2 := 29) rfl ?_
          refine lv_iload_n hx hb dX0_underWayTo_29 rfl (lv_at hl 3 rfl) ?_
          refine lv_iadd hx hb dX0_underWayTo_30 ?_
          refine lv_topi (fun x_52 e_53 => ?_)
          have i_x_52 : x_52.toInt = x_50.toInt + a1.toInt := by rw [e_53]; exact (q_add (by omega) (by omega)).trans (by rfl)
          obtain ⟨f_54, at_55⟩ := gF_o20 hG h_43
          have b_56 : vp_in x_52 208 := (q_in (by omega) (by omega))
          refine va_lald hx hb hK (va_one at_55) 0 1 rfl rfl b_56 dX0_underWayTo_31 ?_
          refine lv_topl (fun z_57 e_58 => ?_)
          refine lv_ladd hx hb dX0_underWayTo_32 ?_
          refine lv_topl (fun z_59 e_60 => ?_)
          refine lv_lstore_n (lv' := [(2, .long z_59), (4, .int yk), (0, .ref a0), (1, .int a1)]) hx hb dX0_underWayTo_33 rfl hl (by decide) rfl (fun ls hl => ?_)
          obtain ⟨x_61, e_62⟩ : ∃ y : Int32, y = yk + Int32.ofInt 1 := ⟨_, rfl⟩
          have i_x_61 : x_61.toInt = yk.toInt + 1 := by rw [e_62, show Int32.ofInt 1 = 1 by decide]; exact (q_add (by rw [show (1 : Int32).toInt = 1 by decide]; omega) (by rw [show (1 : Int32).toInt = 1 by decide]; omega)).trans (by rw [show (1 : Int32).toInt = 1 by decide])
          refine lv_iinc (v := x_61) (lv' := [(4, .int x_61), (2, .long z_59), (0, .ref a0), (1, .int a1)]) hx hb dX0_underWayTo_34 hl (k := 1) rfl e_62.symm (by decide) rfl (fun ls hl => ?_)
          refine lv_goto (tgt := 5) hx hb dX0_underWayTo_37 (by decide) ?_
          exact (hWW _ _ _).mp (ih x_61 z_59 H locs ls (by omega) (by omega) (by omega) hG hS (lv_sub hl [0, 1, 2, 3] rfl))
  have hz_yk : (0 : Int32).toInt = 0 := by decide
  exact loop (13 - 0 : Int).toNat 0 0 H locs ls (by omega) (by omega) (by omega) hG hS (lv_sub hl [0, 1, 2, 3] rfl)

def uX0_underWayToAll : List Cond := .code yX0_underWayToAll cX0_underWayToAll 4 (some .long) :: ([.fieldLink RX0 22 "RiverModel$Course" "due" "[J"] ++ wsX00)
set_option maxHeartbeats 4000000 in
set_option maxRecDepth 100000 in
theorem s_X0_underWayToAll (l : Launch) (D : va_G) (t : Nat → Nat) (cI cL cC : ClassId) (gC : Int32) (gE : Int32) (G : Nat) (gW : Nat → Int32) (gA : Nat → Int32) (a0 : Nat) (k_a0 : t a0 = 5) : tM l yX0_underWayToAll uX0_underWayToAll 0 0 D (gF cI cL cC gC gE G gW gA) (gF cI cL cC gC gE G gW gA) t cI cL cC [.ref a0] wr0 (pL (fun r => True)) := by
  refine tM.ofW (cc := cX0_underWayToAll) (maxL := 4) (ret := (some .long)) (by decide) rfl (Nat.le_of_ble_eq_true rfl) ?_
  intro p e s m below meth c hx hb hr hml hown hts hlk H locs hG hK hE hS ls hl
  have hl : lv_has ls 4 [(0, .ref a0)] := hl
  have in0 : ∀ w ∈ wsX00, w ∈ uX0_underWayToAll := fun w h => List.mem_cons_of_mem _ (List.mem_append_right _ h)
  refine lv_lconst (v := 0) hx hb dX0_underWayToAll_0 (by decide) ?_
  refine lv_lstore_n (lv' := [(1, .long 0), (0, .ref a0)]) hx hb dX0_underWayToAll_1 rfl hl (by decide) rfl (fun ls hl => ?_)
  refine lv_iconst (v := 0) hx hb dX0_underWayToAll_2 (by decide) ?_
  refine lv_istore_n (lv' := [(3, .int 0), (1, .long 0), (0, .ref a0)]) hx hb dX0_underWayToAll_3 rfl hl (by decide) rfl (fun ls hl => ?_)
  refine lv_pc (pc2 := 4) rfl ?_
  refine lp_gen (fun WW hWW => ?_)
  have kx : ∀ (yk : Int32) (ys : Int64) (H1 : Heap) (locs1 : List Loc) (ls1 : Array Slot), 0 ≤ yk.toInt → yk.toInt ≤ 208 → tG D (gF cI cL cC gC gE G gW gA) t H1 → tF t wr0 s.heap H1 locs1 → lv_has ls1 4 [(3, .int yk), (1, .long ys), (0, .ref a0)] → WW H1 locs1 (F0 m 28 ls1 []) := by
    intro yk ys H locs ls v0 v1 hG hS hl
    refine (hWW _ _ _).mpr ?_
    refine lv_lload_n hx hb dX0_underWayToAll_28 rfl (lv_at hl 1 rfl) ?_
    exact ty_lret hx hb hr hlk hG hS True.intro dX0_underWayToAll_29
  have loop : ∀ (k : Nat) (yk : Int32) (ys : Int64) (H1 : Heap) (locs1 : List Loc) (ls1 : Array Slot), 208 - yk.toInt ≤ (k : Int) → 0 ≤ yk.toInt → yk.toInt ≤ 208 → tG D (gF cI cL cC gC gE G gW gA) t H1 → tF t wr0 s.heap H1 locs1 → lv_has ls1 4 [(3, .int yk), (1, .long ys), (0, .ref a0)] → WW H1 locs1 (F0 m 4 ls1 []) := by
    intro k
    induction k with
    | zero =>
      intro yk ys H locs ls hk v0 v1 hG hS hl
      refine (hWW _ _ _).mpr ?_
      refine lv_iload_n hx hb dX0_underWayToAll_4 rfl (lv_at hl 0 rfl) ?_
      refine lv_pc (pc2 := 5) rfl ?_
      refine lv_aload_n hx hb dX0_underWayToAll_5 rfl (lv_at hl 2 rfl) ?_
      obtain ⟨r_1, r_3, r_5, r_7, v_9, v_10, v_11, v_12, at_14, h_2, h_4, h_6, h_8, h_13⟩ := gF_o5 hG k_a0
      refine va_get (D := D) (ci := 0) (v := .ref r_7) (C := RX0) (T := TX0) (N := 8) hx hb hts in0 hown hK (va_one at_14) 0 rfl rfl 3 (by decide) (hts (.fieldLink RX0 22 "RiverModel$Course" "due" "[J") (List.mem_of_getElem? (i := 1) rfl)) (fun _ h9 => h9) rfl dX0_underWayToAll_6 ?_
      obtain ⟨f_15, at_16⟩ := gF_o20 hG h_8
      refine va_alen (v := 208) hx hb hK (va_one at_16) 0 1 rfl rfl rfl dX0_underWayToAll_9 ?_
      refine lv_icmp_ge (tgt := 28) hx hb dX0_underWayToAll_10 (by decide) (fun c_17 => ?_) (fun c_17 => ?_)
      · skip
        have c_17 : 208 ≤ yk.toInt := q_le c_17
        exact (hWW _ _ _).mp (kx yk ys H locs ls (by omega) (by omega) hG hS (lv_sub hl [0, 1, 2] rfl))
      · skip
        have c_17 : yk.toInt < 208 := q_nle c_17
        refine lv_lload_n hx hb dX0_underWayToAll_13 rfl (lv_at hl 1 rfl) ?_
        refine lv_aload_n hx hb dX0_underWayToAll_14 rfl (lv_at hl 2 rfl) ?_
        refine va_get (D := D) (ci := 0) (v := .ref r_7) (C := RX0) (T := TX0) (N := 8) hx hb hts in0 hown hK (va_one at_14) 0 rfl rfl 3 (by decide) (hts (.fieldLink RX0 22 "RiverModel$Course" "due" "[J") (List.mem_of_getElem? (i := 1) rfl)) (fun _ h9 => h9) rfl dX0_underWayToAll_15 ?_
        refine lv_iload_n hx hb dX0_underWayToAll_18 rfl (lv_at hl 0 rfl) ?_
        refine lv_pc (pc2 := 19) rfl ?_
        have b_18 : vp_in yk 208 := (q_in (by omega) (by omega))
        refine va_lald hx hb hK (va_one at_16) 0 1 rfl rfl b_18 dX0_underWayToAll_19 ?_
        refine lv_topl (fun z_19 e_20 => ?_)
        refine lv_ladd hx hb dX0_underWayToAll_20 ?_
        refine lv_topl (fun z_21 e_22 => ?_)
        refine lv_lstore_n (lv' := [(1, .long z_21), (3, .int yk), (0, .ref a0)]) hx hb dX0_underWayToAll_21 rfl hl (by decide) rfl (fun ls hl => ?_)
        obtain ⟨x_23, e_24⟩ : ∃ y : Int32, y = yk + Int32.ofInt 1 := ⟨_, rfl⟩
        have i_x_23 : x_23.toInt = yk.toInt + 1 := by rw [e_24, show Int32.ofInt 1 = 1 by decide]; exact (q_add (by rw [show (1 : Int32).toInt = 1 by decide]; omega) (by rw [show (1 : Int32).toInt = 1 by decide]; omega)).trans (by rw [show (1 : Int32).toInt = 1 by decide])
        refine lv_iinc (v := x_23) (lv' := [(3, .int x_23), (1, .long z_21), (0, .ref a0)]) hx hb dX0_underWayToAll_22 hl (k := 1) rfl e_24.symm (by decide) rfl (fun ls hl => ?_)
        refine lv_goto (tgt := 4) hx hb dX0_underWayToAll_25 (by decide) ?_
        exfalso; omega
    | succ k ih =>
      intro yk ys H locs ls hk v0 v1 hG hS hl
      refine (hWW _ _ _).mpr ?_
      refine lv_iload_n hx hb dX0_underWayToAll_4 rfl (lv_at hl 0 rfl) ?_
      refine lv_aload_n hx hb dX0_underWayToAll_5 rfl (lv_at hl 2 rfl) ?_
      obtain ⟨r_25, r_27, r_29, r_31, v_33, v_34, v_35, v_36, at_38, h_26, h_28, h_30, h_32, h_37⟩ := gF_o5 hG k_a0
      refine va_get (D := D) (ci := 0) (v := .ref r_31) (C := RX0) (T := TX0) (N := 8) hx hb hts in0 hown hK (va_one at_38) 0 rfl rfl 3 (by decide) (hts (.fieldLink RX0 22 "RiverModel$Course" "due" "[J") (List.mem_of_getElem? (i := 1) rfl)) (fun _ h9 => h9) rfl dX0_underWayToAll_6 ?_
      refine lv_pc (pc2 := 9) rfl ?_
      obtain ⟨f_39, at_40⟩ := gF_o20 hG h_32
      refine va_alen (v := 208) hx hb hK (va_one at_40) 0 1 rfl rfl rfl dX0_underWayToAll_9 ?_
      refine lv_icmp_ge (tgt := 28) hx hb dX0_underWayToAll_10 (by decide) (fun c_41 => ?_) (fun c_41 => ?_)
      · skip
        have c_41 : 208 ≤ yk.toInt := q_le c_41
        exact (hWW _ _ _).mp (kx yk ys H locs ls (by omega) (by omega) hG hS (lv_sub hl [0, 1, 2] rfl))
      · skip
        have c_41 : yk.toInt < 208 := q_nle c_41
        refine lv_lload_n hx hb dX0_underWayToAll_13 rfl (lv_at hl 1 rfl) ?_
        refine lv_aload_n hx hb dX0_underWayToAll_14 rfl (lv_at hl 2 rfl) ?_
        refine va_get (D := D) (ci := 0) (v := .ref r_31) (C := RX0) (T := TX0) (N := 8) hx hb hts in0 hown hK (va_one at_38) 0 rfl rfl 3 (by decide) (hts (.fieldLink RX0 22 "RiverModel$Course" "due" "[J") (List.mem_of_getElem? (i := 1) rfl)) (fun _ h9 => h9) rfl dX0_underWayToAll_15 ?_
        refine lv_iload_n hx hb dX0_underWayToAll_18 rfl (lv_at hl 0 rfl) ?_
        have b_42 : vp_in yk 208 := (q_in (by omega) (by omega))
        refine va_lald hx hb hK (va_one at_40) 0 1 rfl rfl b_42 dX0_underWayToAll_19 ?_
        refine lv_topl (fun z_43 e_44 => ?_)
        refine lv_ladd hx hb dX0_underWayToAll_20 ?_
        refine lv_topl (fun z_45 e_46 => ?_)
        refine lv_pc (pc2 := 21) rfl ?_
        refine lv_lstore_n (lv' := [(1, .long z_45), (3, .int yk), (0, .ref a0)]) hx hb dX0_underWayToAll_21 rfl hl (by decide) rfl (fun ls hl => ?_)
        obtain ⟨x_47, e_48⟩ : ∃ y : Int32, y = yk + Int32.ofInt 1 := ⟨_, rfl⟩
        have i_x_47 : x_47.toInt = yk.toInt + 1 := by rw [e_48, show Int32.ofInt 1 = 1 by decide]; exact (q_add (by rw [show (1 : Int32).toInt = 1 by decide]; omega) (by rw [show (1 : Int32).toInt = 1 by decide]; omega)).trans (by rw [show (1 : Int32).toInt = 1 by decide])
        refine lv_iinc (v := x_47) (lv' := [(3, .int x_47), (1, .long z_45), (0, .ref a0)]) hx hb dX0_underWayToAll_22 hl (k := 1) rfl e_48.symm (by decide) rfl (fun ls hl => ?_)
        refine lv_goto (tgt := 4) hx hb dX0_underWayToAll_25 (by decide) ?_
        exact (hWW _ _ _).mp (ih x_47 z_45 H locs ls (by omega) (by omega) (by omega) hG hS (lv_sub hl [0, 1, 2] rfl))
  have hz_yk : (0 : Int32).toInt = 0 := by decide
  exact loop (208 - 0 : Int).toNat 0 0 H locs ls (by omega) (by omega) (by omega) hG hS (lv_sub hl [0, 1, 2] rfl)

def uX1_isSet : List Cond := .code yX1_isSet cX1_isSet 2 (some .boolean) :: ([.fieldLink RX1 9 "RiverModel$Gauges" "whats" "[I"] ++ wsX10)
set_option maxHeartbeats 4000000 in
set_option maxRecDepth 100000 in
theorem s_X1_isSet (l : Launch) (D : va_G) (t : Nat → Nat) (cI cL cC : ClassId) (gC : Int32) (gE : Int32) (G : Nat) (gW : Nat → Int32) (gA : Nat → Int32) (a0 : Nat) (a1 : Int32) (k_a0 : t a0 = 6) : tM l yX1_isSet uX1_isSet 0 0 D (gF cI cL cC gC gE G gW gA) (gF cI cL cC gC gE G gW gA) t cI cL cC [.ref a0, .int a1] wr0 (pI (fun r => (r = 1 ∧ 0 ≤ a1.toInt ∧ a1.toInt ≤ 3) ∨ (r = 0 ∧ True))) := by
  refine tM.ofW (cc := cX1_isSet) (maxL := 2) (ret := (some .boolean)) (by decide) rfl (Nat.le_of_ble_eq_true rfl) ?_
  intro p e s m below meth c hx hb hr hml hown hts hlk H locs hG hK hE hS ls hl
  have hl : lv_has ls 2 [(0, .ref a0), (1, .int a1)] := hl
  have in1 : ∀ w ∈ wsX10, w ∈ uX1_isSet := fun w h => List.mem_cons_of_mem _ (List.mem_append_right _ h)
  refine lv_iload_n hx hb dX1_isSet_0 rfl (lv_at hl 1 rfl) ?_
  refine lv_if_lt (tgt := 24) hx hb dX1_isSet_1 (by decide) (fun c_1 => ?_) (fun c_1 => ?_)
  · skip
    have c_1 : a1.toInt < 0 := q_lt c_1
    refine lv_iconst (v := 0) hx hb dX1_isSet_24 (by decide) ?_
    exact ty_zret hx hb hr hlk rfl hG hS (Or.inr ⟨rfl, trivial⟩) dX1_isSet_25
  · skip
    have c_1 : 0 ≤ a1.toInt := q_nlt c_1
    refine lv_iload_n hx hb dX1_isSet_4 rfl (lv_at hl 1 rfl) ?_
    refine lv_iconst (v := 4) hx hb dX1_isSet_5 (by decide) ?_
    refine lv_icmp_ge (tgt := 24) hx hb dX1_isSet_6 (by decide) (fun c_2 => ?_) (fun c_2 => ?_)
    · skip
      have c_2 : 4 ≤ a1.toInt := q_le c_2
      refine lv_pc (pc2 := 24) rfl ?_
      refine lv_iconst (v := 0) hx hb dX1_isSet_24 (by decide) ?_
      exact ty_zret hx hb hr hlk rfl hG hS (Or.inr ⟨rfl, trivial⟩) dX1_isSet_25
    · skip
      have c_2 : a1.toInt < 4 := q_nle c_2
      refine lv_aload_n hx hb dX1_isSet_9 rfl (lv_at hl 0 rfl) ?_
      obtain ⟨r_3, r_5, r_7, at_9, h_4, h_6, h_8⟩ := gF_o6 hG k_a0
      refine va_get (D := D) (ci := 1) (v := .ref r_3) (C := RX1) (T := TX1) (N := 4) hx hb hts in1 hown hK (va_one at_9) 0 rfl rfl 0 (by decide) (hts (.fieldLink RX1 9 "RiverModel$Gauges" "whats" "[I") (List.mem_of_getElem? (i := 1) rfl)) (fun _ h9 => h9) rfl dX1_isSet_10 ?_
      refine lv_iload_n hx hb dX1_isSet_13 rfl (lv_at hl 1 rfl) ?_
      obtain ⟨f_10, at_11⟩ := gF_o21 hG h_4
      have b_12 : vp_in a1 4 := (q_in (by omega) (by omega))
      refine va_iald hx hb hK (va_one at_11) 0 0 rfl rfl b_12 dX1_isSet_14 ?_
      refine lv_topi (fun x_13 e_14 => ?_)
      refine lv_bipush (v := (-4)) hx hb dX1_isSet_15 (by decide) ?_
      refine lv_icmp_eq (tgt := 24) hx hb dX1_isSet_17 (by decide) (fun c_15 => ?_) (fun c_15 => ?_)
      · skip
        have c_15 : x_13.toInt = (-4) := q_eq c_15
        refine lv_pc (pc2 := 24) rfl ?_
        refine lv_iconst (v := 0) hx hb dX1_isSet_24 (by decide) ?_
        exact ty_zret hx hb hr hlk rfl hG hS (Or.inr ⟨rfl, trivial⟩) dX1_isSet_25
      · skip
        have c_15 : x_13.toInt ≠ (-4) := q_ne c_15
        refine lv_iconst (v := 1) hx hb dX1_isSet_20 (by decide) ?_
        refine lv_goto (tgt := 25) hx hb dX1_isSet_21 (by decide) ?_
        exact ty_zret hx hb hr hlk rfl hG hS (Or.inl ⟨rfl, by omega, by omega⟩) dX1_isSet_25

def uX1_reading : List Cond := .code yX1_reading cX1_reading 4 (some .long) :: ([.methodLink RX1 35 yX1_isSet, .instanceMethod yX1_isSet, .selects RX1 yX1_isSet yX1_isSet, .initialized RX1, .fieldLink RX1 15 "RiverModel$Gauges" "places" "[I", .fieldLink RX1 9 "RiverModel$Gauges" "whats" "[I", .initialized RX9, .static yX9_isNoStore, .fieldLink RX1 50 "RiverModel$Course" "held" "[J", .static yX9_isNoItem, .fieldLink RX1 41 "RiverModel$Course" "moved" "[J", .code yX1_isSet cX1_isSet 2 (some .boolean), .code yX9_isNoStore cX9_isNoStore 1 (some .boolean), .code yX9_isNoItem cX9_isNoItem 1 (some .boolean)] ++ wsX10 ++ wsX00)
set_option maxRecDepth 20000 in
theorem gu_X1_reading_X1_isSet_35 : GoodIn uX1_reading (wsV RX1 35 RX1 yX1_isSet uX1_isSet) := goodIn_r _ [1, 2, 3, 4, 12, 6, 15, 16, 17, 18] rfl (by decide +kernel)
set_option maxRecDepth 20000 in
theorem gu_X1_reading_X9_isNoStore_n : GoodIn uX1_reading (uX9_isNoStore) := goodIn_r _ [13] rfl (by decide +kernel)
set_option maxRecDepth 20000 in
theorem gu_X1_reading_X9_isNoItem_n : GoodIn uX1_reading (uX9_isNoItem) := goodIn_r _ [14] rfl (by decide +kernel)
set_option maxHeartbeats 4000000 in
set_option maxRecDepth 100000 in
theorem s_X1_reading (l : Launch) (D : va_G) (t : Nat → Nat) (cI cL cC : ClassId) (gC : Int32) (gE : Int32) (G : Nat) (gW : Nat → Int32) (gA : Nat → Int32) (a0 : Nat) (a1 : Nat) (a2 : Int32) (k_a0 : t a0 = 6) (k_a1 : t a1 = 5) : tM l yX1_reading uX1_reading 1 21 D (gF cI cL cC gC gE G gW gA) (gF cI cL cC gC gE G gW gA) t cI cL cC [.ref a0, .ref a1, .int a2] wr0 (pL (fun r => True)) := by
  refine tM.ofW (cc := cX1_reading) (maxL := 4) (ret := (some .long)) (by decide) rfl (Nat.le_of_ble_eq_true rfl) ?_
  intro p e s m below meth c hx hb hr hml hown hts hlk H locs hG hK hE hS ls hl
  have hl : lv_has ls 4 [(0, .ref a0), (1, .ref a1), (2, .int a2)] := hl
  have in1 : ∀ w ∈ wsX10, w ∈ uX1_reading := fun w h => List.mem_cons_of_mem _ (List.mem_append_left _ (List.mem_append_right _ h))
  have in0 : ∀ w ∈ wsX00, w ∈ uX1_reading := fun w h => List.mem_cons_of_mem _ (List.mem_append_right _ h)
  refine lv_aload_n hx hb dX1_reading_0 rfl (lv_at hl 0 rfl) ?_
  refine lv_iload_n hx hb dX1_reading_1 rfl (lv_at hl 2 rfl) ?_
  obtain ⟨r_1, r_3, r_5, at_7, h_2, h_4, h_6⟩ := gF_o6 hG k_a0
  refine ty_calli ((W.runV (As := [.int a2]) (rest := []) ⟨hx, hb, hml, hown, hts⟩ (s_X1_isSet l D t cI cL cC gC gE G gW gA a0 a2 k_a0) (cwV 1 hts gu_X1_reading_X1_isSet_35 rfl rfl rfl (by decide +kernel) ⟨Nat.le_of_ble_eq_true rfl, Nat.le_of_ble_eq_true rfl⟩) (tP_V hG hE at_7 rfl) rfl rfl hl.1 rfl (lv_room (Nat.le_of_ble_eq_true rfl)) dX1_reading_2 ⟨Nat.le_of_ble_eq_true rfl, Nat.le_of_ble_eq_true rfl⟩)) hS (fun _ h => h) (fun r_8 H locs hp_9 hG hS o_10 => ?_)
  have at_7 := va_at.keptC at_7 o_10 k_a0 rfl
  rcases hp_9 with ⟨rfl, hc_57, hc_58⟩ | ⟨rfl, _⟩
  · skip
    refine lv_if_ne (tgt := 10) hx hb dX1_reading_5 (by decide) (fun _ => ?_) (fun q => absurd q (by decide))
    refine lv_aload_n hx hb dX1_reading_10 rfl (lv_at hl 0 rfl) ?_
    refine va_get (D := D) (ci := 1) (v := .ref r_3) (C := RX1) (T := TX1) (N := 4) hx hb hts in1 hown hK (va_one at_7) 0 rfl rfl 1 (by decide) (hts (.fieldLink RX1 15 "RiverModel$Gauges" "places" "[I") (List.mem_of_getElem? (i := 5) rfl)) (fun _ h9 => h9) rfl dX1_reading_11 ?_
    refine lv_iload_n hx hb dX1_reading_14 rfl (lv_at hl 2 rfl) ?_
    refine lv_pc (pc2 := 15) rfl ?_
    obtain ⟨f_11, at_12⟩ := gF_o22 hG h_4
    have b_13 : vp_in a2 4 := (q_in (by omega) (by omega))
    refine va_iald hx hb hK (va_one at_12) 0 0 rfl rfl b_13 dX1_reading_15 ?_
    refine lv_topi (fun x_14 e_15 => ?_)
    refine lv_istore_n (lv' := [(3, .int x_14), (0, .ref a0), (1, .ref a1), (2, .int a2)]) hx hb dX1_reading_16 rfl hl (by decide) rfl (fun ls hl => ?_)
    refine lv_aload_n hx hb dX1_reading_17 rfl (lv_at hl 1 rfl) ?_
    refine va_get (D := D) (ci := 1) (v := .ref r_1) (C := RX1) (T := TX1) (N := 4) hx hb hts in1 hown hK (va_one at_7) 0 rfl rfl 0 (by decide) (hts (.fieldLink RX1 9 "RiverModel$Gauges" "whats" "[I") (List.mem_of_getElem? (i := 6) rfl)) (fun _ h9 => h9) rfl dX1_reading_18 ?_
    refine lv_iload_n hx hb dX1_reading_21 rfl (lv_at hl 3 rfl) ?_
    obtain ⟨f_16, at_17⟩ := gF_o21 hG h_2
    have b_18 : vp_in a2 4 := (q_in (by omega) (by omega))
    refine va_iald hx hb hK (va_one at_17) 0 0 rfl rfl b_18 dX1_reading_22 ?_
    refine lv_topi (fun x_19 e_20 => ?_)
    refine lv_if_ne (tgt := 44) hx hb dX1_reading_23 (by decide) (fun c_21 => ?_) (fun c_21 => ?_)
    · skip
      have c_21 : x_19.toInt ≠ 0 := q_ne c_21
      refine lv_iload_n hx hb dX1_reading_44 rfl (lv_at hl 0 rfl) ?_
      refine lv_pc (pc2 := 45) rfl ?_
      refine ty_calli (tRun (va_runSN (As := [.int x_14]) (rest := []) ⟨hx, hb, hml, hown, hts⟩ (s_X9_isNoStore l D t cI cL cC gC gE G gW gA x_14 ) ⟨(va_cnB 1 hts gu_X1_reading_X9_isNoStore_n rfl rfl rfl (hE.2.1 _ (List.mem_of_getElem? (i := 17) rfl)) (hts (.initialized RX9) (List.mem_of_getElem? (i := 7) rfl)) (by decide +kernel) ⟨Nat.le_of_ble_eq_true rfl, Nat.le_of_ble_eq_true rfl⟩), (hts (.static yX9_isNoStore) (List.mem_of_getElem? (i := 8) rfl)), trivial⟩ (tP_S hG hE) rfl rfl hl.1 rfl (lv_room (Nat.le_of_ble_eq_true rfl)) dX1_reading_45 ⟨Nat.le_of_ble_eq_true rfl, Nat.le_of_ble_eq_true rfl⟩)) hS (fun _ h => h) (fun r_22 H locs hp_23 hG hS o_24 => ?_)
      have at_7 := va_at.keptC at_7 o_24 k_a0 rfl
      have at_12 := va_at.keptC at_12 o_24 h_4 rfl
      have at_17 := va_at.keptC at_17 o_24 h_2 rfl
      rcases hp_23 with ⟨rfl, hc_59⟩ | ⟨rfl, hc_60, hc_61⟩
      · skip
        refine lv_if_eq (tgt := 55) hx hb dX1_reading_48 (by decide) (fun q => absurd q (by decide)) (fun _ => ?_)
        refine lv_lconst (v := 0) hx hb dX1_reading_51 (by decide) ?_
        refine lv_goto (tgt := 61) hx hb dX1_reading_52 (by decide) ?_
        exact ty_lret hx hb hr hlk hG hS True.intro dX1_reading_61
      · skip
        refine lv_if_eq (tgt := 55) hx hb dX1_reading_48 (by decide) (fun _ => ?_) (fun q => absurd (by decide) q)
        refine lv_aload_n hx hb dX1_reading_55 rfl (lv_at hl 2 rfl) ?_
        obtain ⟨r_25, r_27, r_29, r_31, v_33, v_34, v_35, v_36, at_38, h_26, h_28, h_30, h_32, h_37⟩ := gF_o5 hG k_a1
        refine va_get (D := D) (ci := 0) (v := .ref r_25) (C := RX0) (T := TX0) (N := 8) hx hb hts in0 hown hK (va_one at_38) 0 rfl rfl 0 (by decide) (hts (.fieldLink RX1 50 "RiverModel$Course" "held" "[J") (List.mem_of_getElem? (i := 9) rfl)) (fun _ h9 => h9) rfl dX1_reading_56 ?_
        refine lv_pc (pc2 := 59) rfl ?_
        refine lv_iload_n hx hb dX1_reading_59 rfl (lv_at hl 0 rfl) ?_
        obtain ⟨f_39, at_40⟩ := gF_o17 hG h_26
        have b_41 : vp_in x_14 16 := (q_in (by omega) (by omega))
        refine va_lald hx hb hK (va_one at_40) 0 1 rfl rfl b_41 dX1_reading_60 ?_
        refine lv_topl (fun z_42 e_43 => ?_)
        exact ty_lret hx hb hr hlk hG hS True.intro dX1_reading_61
    · skip
      have c_21 : x_19.toInt = 0 := q_eq c_21
      refine lv_iload_n hx hb dX1_reading_26 rfl (lv_at hl 0 rfl) ?_
      refine ty_calli (tRun (va_runSN (As := [.int x_14]) (rest := []) ⟨hx, hb, hml, hown, hts⟩ (s_X9_isNoItem l D t cI cL cC gC gE G gW gA x_14 ) ⟨(va_cnB 1 hts gu_X1_reading_X9_isNoItem_n rfl rfl rfl (hE.2.1 _ (List.mem_of_getElem? (i := 16) rfl)) (hts (.initialized RX9) (List.mem_of_getElem? (i := 7) rfl)) (by decide +kernel) ⟨Nat.le_of_ble_eq_true rfl, Nat.le_of_ble_eq_true rfl⟩), (hts (.static yX9_isNoItem) (List.mem_of_getElem? (i := 10) rfl)), trivial⟩ (tP_S hG hE) rfl rfl hl.1 rfl (lv_room (Nat.le_of_ble_eq_true rfl)) dX1_reading_27 ⟨Nat.le_of_ble_eq_true rfl, Nat.le_of_ble_eq_true rfl⟩)) hS (fun _ h => h) (fun r_44 H locs hp_45 hG hS o_46 => ?_)
      have at_7 := va_at.keptC at_7 o_46 k_a0 rfl
      have at_12 := va_at.keptC at_12 o_46 h_4 rfl
      have at_17 := va_at.keptC at_17 o_46 h_2 rfl
      rcases hp_45 with ⟨rfl, hc_62⟩ | ⟨rfl, hc_63, hc_64⟩
      · skip
        refine lv_if_eq (tgt := 37) hx hb dX1_reading_30 (by decide) (fun q => absurd q (by decide)) (fun _ => ?_)
        refine lv_lconst (v := 0) hx hb dX1_reading_33 (by decide) ?_
        refine lv_goto (tgt := 43) hx hb dX1_reading_34 (by decide) ?_
        refine lv_pc (pc2 := 43) rfl ?_
        exact ty_lret hx hb hr hlk hG hS True.intro dX1_reading_43
      · skip
        refine lv_if_eq (tgt := 37) hx hb dX1_reading_30 (by decide) (fun _ => ?_) (fun q => absurd (by decide) q)
        refine lv_aload_n hx hb dX1_reading_37 rfl (lv_at hl 2 rfl) ?_
        obtain ⟨r_47, r_49, r_51, r_53, v_55, v_56, v_57, v_58, at_60, h_48, h_50, h_52, h_54, h_59⟩ := gF_o5 hG k_a1
        refine va_get (D := D) (ci := 0) (v := .ref r_49) (C := RX0) (T := TX0) (N := 8) hx hb hts in0 hown hK (va_one at_60) 0 rfl rfl 1 (by decide) (hts (.fieldLink RX1 41 "RiverModel$Course" "moved" "[J") (List.mem_of_getElem? (i := 11) rfl)) (fun _ h9 => h9) rfl dX1_reading_38 ?_
        refine lv_iload_n hx hb dX1_reading_41 rfl (lv_at hl 0 rfl) ?_
        obtain ⟨f_61, at_62⟩ := gF_o18 hG h_50
        have b_63 : vp_in x_14 40 := (q_in (by omega) (by omega))
        refine va_lald hx hb hK (va_one at_62) 0 1 rfl rfl b_63 dX1_reading_42 ?_
        refine lv_topl (fun z_64 e_65 => ?_)
        exact ty_lret hx hb hr hlk hG hS True.intro dX1_reading_43
  · skip
    refine lv_if_ne (tgt := 10) hx hb dX1_reading_5 (by decide) (fun q => absurd rfl q) (fun _ => ?_)
    refine lv_pc (pc2 := 8) rfl ?_
    refine lv_lconst (v := 0) hx hb dX1_reading_8 (by decide) ?_
    exact ty_lret hx hb hr hlk hG hS True.intro dX1_reading_9

def uX1_agree : List Cond := .code yX1_agree cX1_agree 5 (some .boolean) :: ([.fieldLink RX1 18 "RiverModel$Gauges" "seen" "[I", .methodLink RX1 57 yX1_reading, .instanceMethod yX1_reading, .selects RX1 yX1_reading yX1_reading, .initialized RX1, .methodLink RX1 61 Lib.MathLoose.abs_long.x, .static Lib.MathLoose.abs_long.x, .initialized "java/lang/Math", .code Lib.MathLoose.abs_long.x Lib.MathLoose.abs_long.code 2 (some .long), .fieldLink RX1 21 "RiverModel$Gauges" "mayBeOff" "I", .code yX1_reading cX1_reading 4 (some .long), .methodLink RX1 35 yX1_isSet, .instanceMethod yX1_isSet, .selects RX1 yX1_isSet yX1_isSet, .fieldLink RX1 15 "RiverModel$Gauges" "places" "[I", .fieldLink RX1 9 "RiverModel$Gauges" "whats" "[I", .initialized RX9, .static yX9_isNoStore, .fieldLink RX1 50 "RiverModel$Course" "held" "[J", .static yX9_isNoItem, .fieldLink RX1 41 "RiverModel$Course" "moved" "[J", .code yX1_isSet cX1_isSet 2 (some .boolean), .code yX9_isNoStore cX9_isNoStore 1 (some .boolean), .code yX9_isNoItem cX9_isNoItem 1 (some .boolean)] ++ wsX10 ++ wsX00)
set_option maxRecDepth 20000 in
theorem gu_X1_agree_X1_reading_57 : GoodIn uX1_agree (wsV RX1 57 RX1 yX1_reading uX1_reading) := goodIn_r _ [2, 3, 4, 5, 11, 12, 13, 14, 5, 15, 16, 17, 18, 19, 20, 21, 22, 23, 24, 25, 26, 27, 28, 29, 30, 31, 32, 33, 34, 35, 36] rfl (by decide +kernel)
set_option maxHeartbeats 4000000 in
set_option maxRecDepth 100000 in
theorem s_X1_agree (l : Launch) (D : va_G) (t : Nat → Nat) (cI cL cC : ClassId) (gC : Int32) (gE : Int32) (G : Nat) (gW : Nat → Int32) (gA : Nat → Int32) (a0 : Nat) (a1 : Nat) (a2 : Int32) (h0h : 0 ≤ a2.toInt) (k_a0 : t a0 = 6) (k_a1 : t a1 = 5) : tM l yX1_agree uX1_agree 2 44 D (gF cI cL cC gC gE G gW gA) (gF cI cL cC gC gE G gW gA) t cI cL cC [.ref a0, .ref a1, .int a2] wr0 (pI (fun r => r = 0 ∨ r = 1)) := by
  refine tM.ofW (cc := cX1_agree) (maxL := 5) (ret := (some .boolean)) (by decide) rfl (Nat.le_of_ble_eq_true rfl) ?_
  intro p e s m below meth c hx hb hr hml hown hts hlk H locs hG hK hE hS ls hl
  have hl : lv_has ls 5 [(0, .ref a0), (1, .ref a1), (2, .int a2)] := hl
  have in1 : ∀ w ∈ wsX10, w ∈ uX1_agree := fun w h => List.mem_cons_of_mem _ (List.mem_append_left _ (List.mem_append_right _ h))
  refine lv_iconst (v := 0) hx hb dX1_agree_0 (by decide) ?_
  refine lv_istore_n (lv' := [(3, .int 0), (0, .ref a0), (1, .ref a1), (2, .int a2)]) hx hb dX1_agree_1 rfl hl (by decide) rfl (fun ls hl => ?_)
  refine lv_pc (pc2 := 2) rfl ?_
  refine lp_gen (fun WW hWW => ?_)
  have kx : ∀ (yk : Int32) (H1 : Heap) (locs1 : List Loc) (ls1 : Array Slot), 0 ≤ yk.toInt → yk.toInt ≤ 4 → tG D (gF cI cL cC gC gE G gW gA) t H1 → tF t wr0 s.heap H1 locs1 → lv_has ls1 5 [(3, .int yk), (0, .ref a0), (1, .ref a1), (2, .int a2)] → WW H1 locs1 (F0 m 62 ls1 []) := by
    intro yk H locs ls v0 v1 hG hS hl
    refine (hWW _ _ _).mpr ?_
    refine lv_iconst (v := 1) hx hb dX1_agree_62 (by decide) ?_
    exact ty_zret hx hb hr hlk rfl hG hS (by decide) dX1_agree_63
  have loop : ∀ (k : Nat) (yk : Int32) (H1 : Heap) (locs1 : List Loc) (ls1 : Array Slot), 4 - yk.toInt ≤ (k : Int) → 0 ≤ yk.toInt → yk.toInt ≤ 4 → tG D (gF cI cL cC gC gE G gW gA) t H1 → tF t wr0 s.heap H1 locs1 → lv_has ls1 5 [(3, .int yk), (0, .ref a0), (1, .ref a1), (2, .int a2)] → WW H1 locs1 (F0 m 2 ls1 []) := by
    intro k
    induction k with
    | zero =>
      intro yk H locs ls hk v0 v1 hG hS hl
      refine (hWW _ _ _).mpr ?_
      refine lv_iload_n hx hb dX1_agree_2 rfl (lv_at hl 0 rfl) ?_
      refine lv_iconst (v := 4) hx hb dX1_agree_3 (by decide) ?_
      refine lv_icmp_ge (tgt := 62) hx hb dX1_agree_4 (by decide) (fun c_1 => ?_) (fun c_1 => ?_)
      · skip
        have c_1 : 4 ≤ yk.toInt := q_le c_1
        exact (hWW _ _ _).mp (kx yk H locs ls (by omega) (by omega) hG hS (lv_sub hl [0, 1, 2, 3] rfl))
      · skip
        have c_1 : yk.toInt < 4 := q_nle c_1
        refine lv_pc (pc2 := 7) rfl ?_
        refine lv_iload_n hx hb dX1_agree_7 rfl (lv_at hl 3 rfl) ?_
        refine lv_bipush (v := 96) hx hb dX1_agree_8 (by decide) ?_
        refine lv_icmp_ge (tgt := 62) hx hb dX1_agree_10 (by decide) (fun c_2 => ?_) (fun c_2 => ?_)
        · skip
          have c_2 : 96 ≤ a2.toInt := q_le c_2
          exact (hWW _ _ _).mp (kx yk H locs ls (by omega) (by omega) hG hS (lv_sub hl [0, 1, 2, 3] rfl))
        · skip
          have c_2 : a2.toInt < 96 := q_nle c_2
          refine lv_aload_n hx hb dX1_agree_13 rfl (lv_at hl 1 rfl) ?_
          obtain ⟨r_3, r_5, r_7, at_9, h_4, h_6, h_8⟩ := gF_o6 hG k_a0
          refine va_get (D := D) (ci := 1) (v := .ref r_7) (C := RX1) (T := TX1) (N := 4) hx hb hts in1 hown hK (va_one at_9) 0 rfl rfl 2 (by decide) (hts (.fieldLink RX1 18 "RiverModel$Gauges" "seen" "[I") (List.mem_of_getElem? (i := 1) rfl)) (fun _ h9 => h9) rfl dX1_agree_14 ?_
          refine lv_iload_n hx hb dX1_agree_17 rfl (lv_at hl 0 rfl) ?_
          refine lv_bipush (v := 96) hx hb dX1_agree_18 (by decide) ?_
          refine lv_imul hx hb dX1_agree_20 ?_
          refine lv_topi (fun x_10 e_11 => ?_)
          have i_x_10 : x_10.toInt = yk.toInt * 96 := by rw [e_11]; exact (q_mul (by rw [show (96 : Int32).toInt = 96 by decide]; omega) (by rw [show (96 : Int32).toInt = 96 by decide]; omega)).trans (by rw [show (96 : Int32).toInt = 96 by decide])
          refine lv_pc (pc2 := 21) rfl ?_
          refine lv_iload_n hx hb dX1_agree_21 rfl (lv_at hl 3 rfl) ?_
          refine lv_iadd hx hb dX1_agree_22 ?_
          refine lv_topi (fun x_12 e_13 => ?_)
          have i_x_12 : x_12.toInt = x_10.toInt + a2.toInt := by rw [e_13]; exact (q_add (by omega) (by omega)).trans (by rfl)
          obtain ⟨f_14, at_15⟩ := gF_o23 hG h_8
          have b_16 : vp_in x_12 384 := (q_in (by omega) (by omega))
          refine va_iald hx hb hK (va_one at_15) 0 0 rfl rfl b_16 dX1_agree_23 ?_
          refine lv_topi (fun x_17 e_18 => ?_)
          refine lv_istore (lv' := [(4, .int x_17), (3, .int yk), (0, .ref a0), (1, .ref a1), (2, .int a2)]) hx hb dX1_agree_24 hl (by decide) rfl (fun ls hl => ?_)
          refine lv_iload hx hb dX1_agree_26 (lv_at hl 0 rfl) ?_
          refine lv_iconst (v := (-1)) hx hb dX1_agree_28 (by decide) ?_
          refine lv_icmp_eq (tgt := 56) hx hb dX1_agree_29 (by decide) (fun c_19 => ?_) (fun c_19 => ?_)
          · skip
            have c_19 : x_17.toInt = (-1) := q_eq c_19
            obtain ⟨x_20, e_21⟩ : ∃ y : Int32, y = yk + Int32.ofInt 1 := ⟨_, rfl⟩
            have i_x_20 : x_20.toInt = yk.toInt + 1 := by rw [e_21, show Int32.ofInt 1 = 1 by decide]; exact (q_add (by rw [show (1 : Int32).toInt = 1 by decide]; omega) (by rw [show (1 : Int32).toInt = 1 by decide]; omega)).trans (by rw [show (1 : Int32).toInt = 1 by decide])
            refine lv_iinc (v := x_20) (lv' := [(3, .int x_20), (4, .int x_17), (0, .ref a0), (1, .ref a1), (2, .int a2)]) hx hb dX1_agree_56 hl (k := 1) rfl e_21.symm (by decide) rfl (fun ls hl => ?_)
            refine lv_pc (pc2 := 59) rfl ?_
            refine lv_goto (tgt := 2) hx hb dX1_agree_59 (by decide) ?_
            exfalso; omega
          · skip
            have c_19 : x_17.toInt ≠ (-1) := q_ne c_19
            refine lv_aload_n hx hb dX1_agree_32 rfl (lv_at hl 2 rfl) ?_
            refine lv_aload_n hx hb dX1_agree_33 rfl (lv_at hl 3 rfl) ?_
            refine lv_iload_n hx hb dX1_agree_34 rfl (lv_at hl 1 rfl) ?_
            refine ty_calll ((W.runV (As := [.ref a1, .int yk]) (rest := []) ⟨hx, hb, hml, hown, hts⟩ (s_X1_reading l D t cI cL cC gC gE G gW gA a0 a1 yk k_a0 k_a1) (cwV 2 hts gu_X1_agree_X1_reading_57 rfl rfl rfl (by decide +kernel) ⟨Nat.le_of_ble_eq_true rfl, Nat.le_of_ble_eq_true rfl⟩) (tP_V hG hE at_9 rfl) rfl rfl hl.1 rfl (lv_room (Nat.le_of_ble_eq_true rfl)) dX1_agree_35 ⟨Nat.le_of_ble_eq_true rfl, Nat.le_of_ble_eq_true rfl⟩)) hS (fun _ h => h) (fun z_22 H locs hp_23 hG hS o_24 => ?_)
            have at_9 := va_at.keptC at_9 o_24 k_a0 rfl
            have at_15 := va_at.keptC at_15 o_24 h_8 rfl
            refine lv_iload hx hb dX1_agree_38 (lv_at hl 0 rfl) ?_
            refine lv_i2l (v := x_17.toInt64) hx hb dX1_agree_40 rfl ?_
            refine lv_lsub hx hb dX1_agree_41 ?_
            refine lv_topl (fun z_25 e_26 => ?_)
            refine lv_pc (pc2 := 42) rfl ?_
            refine va_mabs_long hx hb (by rw [hml]; exact hl.1.symm) hown (hts (.methodLink RX1 61 Lib.MathLoose.abs_long.x) (List.mem_of_getElem? (i := 6) rfl)) (hts (.static Lib.MathLoose.abs_long.x) (List.mem_of_getElem? (i := 7) rfl)) (hts (.initialized "java/lang/Math") (List.mem_of_getElem? (i := 8) rfl)) (hts (.code Lib.MathLoose.abs_long.x Lib.MathLoose.abs_long.code 2 (some .long)) (List.mem_of_getElem? (i := 9) rfl)) (Nat.le_of_ble_eq_true rfl) (Nat.le_of_ble_eq_true rfl) (Nat.zero_le _) (Nat.zero_le _) dX1_agree_42 ?_
            refine lv_topl (fun z_27 e_28 => ?_)
            refine lv_aload_n hx hb dX1_agree_45 rfl (lv_at hl 2 rfl) ?_
            refine va_get (D := D) (ci := 1) (v := .int gE) (C := RX1) (T := TX1) (N := 4) hx hb hts in1 hown hK (va_one at_9) 0 rfl rfl 3 (by decide) (hts (.fieldLink RX1 21 "RiverModel$Gauges" "mayBeOff" "I") (List.mem_of_getElem? (i := 10) rfl)) (fun _ h9 => h9) rfl dX1_agree_46 ?_
            refine lv_i2l (v := gE.toInt64) hx hb dX1_agree_49 rfl ?_
            refine W.lcmp hx hb dX1_agree_50 ?_
            refine lv_if_le (tgt := 56) hx hb dX1_agree_51 (by decide) (fun c_29 => ?_) (fun c_29 => ?_)
            · skip
              have c_29 : z_27.toInt ≤ gE.toInt := by rw [← q_i2l gE]; exact q_cmp_le c_29
              obtain ⟨x_30, e_31⟩ : ∃ y : Int32, y = yk + Int32.ofInt 1 := ⟨_, rfl⟩
              have i_x_30 : x_30.toInt = yk.toInt + 1 := by rw [e_31, show Int32.ofInt 1 = 1 by decide]; exact (q_add (by rw [show (1 : Int32).toInt = 1 by decide]; omega) (by rw [show (1 : Int32).toInt = 1 by decide]; omega)).trans (by rw [show (1 : Int32).toInt = 1 by decide])
              refine lv_iinc (v := x_30) (lv' := [(3, .int x_30), (4, .int x_17), (0, .ref a0), (1, .ref a1), (2, .int a2)]) hx hb dX1_agree_56 hl (k := 1) rfl e_31.symm (by decide) rfl (fun ls hl => ?_)
              refine lv_goto (tgt := 2) hx hb dX1_agree_59 (by decide) ?_
              exfalso; omega
            · skip
              have c_29 : gE.toInt < z_27.toInt := by rw [← q_i2l gE]; exact q_cmp_nle c_29
              refine lv_pc (pc2 := 54) rfl ?_
              refine lv_iconst (v := 0) hx hb dX1_agree_54 (by decide) ?_
              exact ty_zret hx hb hr hlk rfl hG hS (by decide) dX1_agree_55
    | succ k ih =>
      intro yk H locs ls hk v0 v1 hG hS hl
      refine (hWW _ _ _).mpr ?_
      refine lv_iload_n hx hb dX1_agree_2 rfl (lv_at hl 0 rfl) ?_
      refine lv_iconst (v := 4) hx hb dX1_agree_3 (by decide) ?_
      refine lv_icmp_ge (tgt := 62) hx hb dX1_agree_4 (by decide) (fun c_32 => ?_) (fun c_32 => ?_)
      · skip
        have c_32 : 4 ≤ yk.toInt := q_le c_32
        exact (hWW _ _ _).mp (kx yk H locs ls (by omega) (by omega) hG hS (lv_sub hl [0, 1, 2, 3] rfl))
      · skip
        have c_32 : yk.toInt < 4 := q_nle c_32
        refine lv_iload_n hx hb dX1_agree_7 rfl (lv_at hl 3 rfl) ?_
        refine lv_bipush (v := 96) hx hb dX1_agree_8 (by decide) ?_
        refine lv_icmp_ge (tgt := 62) hx hb dX1_agree_10 (by decide) (fun c_33 => ?_) (fun c_33 => ?_)
        · skip
          have c_33 : 96 ≤ a2.toInt := q_le c_33
          exact (hWW _ _ _).mp (kx yk H locs ls (by omega) (by omega) hG hS (lv_sub hl [0, 1, 2, 3] rfl))
        · skip
          have c_33 : a2.toInt < 96 := q_nle c_33
          refine lv_pc (pc2 := 13) rfl ?_
          refine lv_aload_n hx hb dX1_agree_13 rfl (lv_at hl 1 rfl) ?_
          obtain ⟨r_34, r_36, r_38, at_40, h_35, h_37, h_39⟩ := gF_o6 hG k_a0
          refine va_get (D := D) (ci := 1) (v := .ref r_38) (C := RX1) (T := TX1) (N := 4) hx hb hts in1 hown hK (va_one at_40) 0 rfl rfl 2 (by decide) (hts (.fieldLink RX1 18 "RiverModel$Gauges" "seen" "[I") (List.mem_of_getElem? (i := 1) rfl)) (fun _ h9 => h9) rfl dX1_agree_14 ?_
          refine lv_iload_n hx hb dX1_agree_17 rfl (lv_at hl 0 rfl) ?_
          refine lv_bipush (v := 96) hx hb dX1_agree_18 (by decide) ?_
          refine lv_imul hx hb dX1_agree_20 ?_
          refine lv_topi (fun x_41 e_42 => ?_)
          have i_x_41 : x_41.toInt = yk.toInt * 96 := by rw [e_42]; exact (q_mul (by rw [show (96 : Int32).toInt = 96 by decide]; omega) (by rw [show (96 : Int32).toInt = 96 by decide]; omega)).trans (by rw [show (96 : Int32).toInt = 96 by decide])
          refine lv_iload_n hx hb dX1_agree_21 rfl (lv_at hl 3 rfl) ?_
          refine lv_iadd hx hb dX1_agree_22 ?_
          refine lv_topi (fun x_43 e_44 => ?_)
          have i_x_43 : x_43.toInt = x_41.toInt + a2.toInt := by rw [e_44]; exact (q_add (by omega) (by omega)).trans (by rfl)
          obtain ⟨f_45, at_46⟩ := gF_o23 hG h_39
          have b_47 : vp_in x_43 384 := (q_in (by omega) (by omega))
          refine va_iald hx hb hK (va_one at_46) 0 0 rfl rfl b_47 dX1_agree_23 ?_
          refine lv_topi (fun x_48 e_49 => ?_)
          refine lv_pc (pc2 := 24) rfl ?_
          refine lv_istore (lv' := [(4, .int x_48), (3, .int yk), (0, .ref a0), (1, .ref a1), (2, .int a2)]) hx hb dX1_agree_24 hl (by decide) rfl (fun ls hl => ?_)
          refine lv_iload hx hb dX1_agree_26 (lv_at hl 0 rfl) ?_
          refine lv_iconst (v := (-1)) hx hb dX1_agree_28 (by decide) ?_
          refine lv_icmp_eq (tgt := 56) hx hb dX1_agree_29 (by decide) (fun c_50 => ?_) (fun c_50 => ?_)
          · skip
            have c_50 : x_48.toInt = (-1) := q_eq c_50
            obtain ⟨x_51, e_52⟩ : ∃ y : Int32, y = yk + Int32.ofInt 1 := ⟨_, rfl⟩
            have i_x_51 : x_51.toInt = yk.toInt + 1 := by rw [e_52, show Int32.ofInt 1 = 1 by decide]; exact (q_add (by rw [show (1 : Int32).toInt = 1 by decide]; omega) (by rw [show (1 : Int32).toInt = 1 by decide]; omega)).trans (by rw [show (1 : Int32).toInt = 1 by decide])
            refine lv_iinc (v := x_51) (lv' := [(3, .int x_51), (4, .int x_48), (0, .ref a0), (1, .ref a1), (2, .int a2)]) hx hb dX1_agree_56 hl (k := 1) rfl e_52.symm (by decide) rfl (fun ls hl => ?_)
            refine lv_goto (tgt := 2) hx hb dX1_agree_59 (by decide) ?_
            exact (hWW _ _ _).mp (ih x_51 H locs ls (by omega) (by omega) (by omega) hG hS (lv_sub hl [0, 2, 3, 4] rfl))
          · skip
            have c_50 : x_48.toInt ≠ (-1) := q_ne c_50
            refine lv_aload_n hx hb dX1_agree_32 rfl (lv_at hl 2 rfl) ?_
            refine lv_aload_n hx hb dX1_agree_33 rfl (lv_at hl 3 rfl) ?_
            refine lv_pc (pc2 := 34) rfl ?_
            refine lv_iload_n hx hb dX1_agree_34 rfl (lv_at hl 1 rfl) ?_
            refine ty_calll ((W.runV (As := [.ref a1, .int yk]) (rest := []) ⟨hx, hb, hml, hown, hts⟩ (s_X1_reading l D t cI cL cC gC gE G gW gA a0 a1 yk k_a0 k_a1) (cwV 2 hts gu_X1_agree_X1_reading_57 rfl rfl rfl (by decide +kernel) ⟨Nat.le_of_ble_eq_true rfl, Nat.le_of_ble_eq_true rfl⟩) (tP_V hG hE at_40 rfl) rfl rfl hl.1 rfl (lv_room (Nat.le_of_ble_eq_true rfl)) dX1_agree_35 ⟨Nat.le_of_ble_eq_true rfl, Nat.le_of_ble_eq_true rfl⟩)) hS (fun _ h => h) (fun z_53 H locs hp_54 hG hS o_55 => ?_)
            have at_40 := va_at.keptC at_40 o_55 k_a0 rfl
            have at_46 := va_at.keptC at_46 o_55 h_39 rfl
            refine lv_iload hx hb dX1_agree_38 (lv_at hl 0 rfl) ?_
            refine lv_i2l (v := x_48.toInt64) hx hb dX1_agree_40 rfl ?_
            refine lv_lsub hx hb dX1_agree_41 ?_
            refine lv_topl (fun z_56 e_57 => ?_)
            refine va_mabs_long hx hb (by rw [hml]; exact hl.1.symm) hown (hts (.methodLink RX1 61 Lib.MathLoose.abs_long.x) (List.mem_of_getElem? (i := 6) rfl)) (hts (.static Lib.MathLoose.abs_long.x) (List.mem_of_getElem? (i := 7) rfl)) (hts (.initialized "java/lang/Math") (List.mem_of_getElem? (i := 8) rfl)) (hts (.code Lib.MathLoose.abs_long.x Lib.MathLoose.abs_long.code 2 (some .long)) (List.mem_of_getElem? (i := 9) rfl)) (Nat.le_of_ble_eq_true rfl) (Nat.le_of_ble_eq_true rfl) (Nat.zero_le _) (Nat.zero_le _) dX1_agree_42 ?_
            refine lv_topl (fun z_58 e_59 => ?_)
            refine lv_aload_n hx hb dX1_agree_45 rfl (lv_at hl 2 rfl) ?_
            refine va_get (D := D) (ci := 1) (v := .int gE) (C := RX1) (T := TX1) (N := 4) hx hb hts in1 hown hK (va_one at_40) 0 rfl rfl 3 (by decide) (hts (.fieldLink RX1 21 "RiverModel$Gauges" "mayBeOff" "I") (List.mem_of_getElem? (i := 10) rfl)) (fun _ h9 => h9) rfl dX1_agree_46 ?_
            refine lv_pc (pc2 := 49) rfl ?_
            refine lv_i2l (v := gE.toInt64) hx hb dX1_agree_49 rfl ?_
            refine W.lcmp hx hb dX1_agree_50 ?_
            refine lv_if_le (tgt := 56) hx hb dX1_agree_51 (by decide) (fun c_60 => ?_) (fun c_60 => ?_)
            · skip
              have c_60 : z_58.toInt ≤ gE.toInt := by rw [← q_i2l gE]; exact q_cmp_le c_60
              obtain ⟨x_61, e_62⟩ : ∃ y : Int32, y = yk + Int32.ofInt 1 := ⟨_, rfl⟩
              have i_x_61 : x_61.toInt = yk.toInt + 1 := by rw [e_62, show Int32.ofInt 1 = 1 by decide]; exact (q_add (by rw [show (1 : Int32).toInt = 1 by decide]; omega) (by rw [show (1 : Int32).toInt = 1 by decide]; omega)).trans (by rw [show (1 : Int32).toInt = 1 by decide])
              refine lv_iinc (v := x_61) (lv' := [(3, .int x_61), (4, .int x_48), (0, .ref a0), (1, .ref a1), (2, .int a2)]) hx hb dX1_agree_56 hl (k := 1) rfl e_62.symm (by decide) rfl (fun ls hl => ?_)
              refine lv_goto (tgt := 2) hx hb dX1_agree_59 (by decide) ?_
              exact (hWW _ _ _).mp (ih x_61 H locs ls (by omega) (by omega) (by omega) hG hS (lv_sub hl [0, 2, 3, 4] rfl))
            · skip
              have c_60 : gE.toInt < z_58.toInt := by rw [← q_i2l gE]; exact q_cmp_nle c_60
              refine lv_iconst (v := 0) hx hb dX1_agree_54 (by decide) ?_
              exact ty_zret hx hb hr hlk rfl hG hS (by decide) dX1_agree_55
  have hz_yk : (0 : Int32).toInt = 0 := by decide
  exact loop (4 - 0 : Int).toNat 0 H locs ls (by omega) (by omega) (by omega) hG hS (lv_sub hl [0, 1, 2, 3] rfl)

def uX1_lastSeen : List Cond := .code yX1_lastSeen cX1_lastSeen 3 (some .int) :: ([.fieldLink RX1 18 "RiverModel$Gauges" "seen" "[I", .methodLink RX1 67 Lib.Math.max.name, .static Lib.Math.max.name, .initialized "java/lang/Math", .code Lib.Math.max.name Lib.Math.max.code 2 (some .int)] ++ wsX10)
set_option maxHeartbeats 4000000 in
set_option maxRecDepth 100000 in
theorem s_X1_lastSeen (l : Launch) (D : va_G) (t : Nat → Nat) (cI cL cC : ClassId) (gC : Int32) (gE : Int32) (G : Nat) (gW : Nat → Int32) (gA : Nat → Int32) (a0 : Nat) (k_a0 : t a0 = 6) : tM l yX1_lastSeen uX1_lastSeen 1 13 D (gF cI cL cC gC gE G gW gA) (gF cI cL cC gC gE G gW gA) t cI cL cC [.ref a0] wr0 (pI (fun r => -1 ≤ r.toInt ∧ r.toInt ≤ 95)) := by
  refine tM.ofW (cc := cX1_lastSeen) (maxL := 3) (ret := (some .int)) (by decide) rfl (Nat.le_of_ble_eq_true rfl) ?_
  intro p e s m below meth c hx hb hr hml hown hts hlk H locs hG hK hE hS ls hl
  have hl : lv_has ls 3 [(0, .ref a0)] := hl
  have in1 : ∀ w ∈ wsX10, w ∈ uX1_lastSeen := fun w h => List.mem_cons_of_mem _ (List.mem_append_right _ h)
  refine lv_iconst (v := (-1)) hx hb dX1_lastSeen_0 (by decide) ?_
  refine lv_istore_n (lv' := [(1, .int (-1)), (0, .ref a0)]) hx hb dX1_lastSeen_1 rfl hl (by decide) rfl (fun ls hl => ?_)
  refine lv_iconst (v := 0) hx hb dX1_lastSeen_2 (by decide) ?_
  refine lv_istore_n (lv' := [(2, .int 0), (1, .int (-1)), (0, .ref a0)]) hx hb dX1_lastSeen_3 rfl hl (by decide) rfl (fun ls hl => ?_)
  refine lv_pc (pc2 := 4) rfl ?_
  refine lp_gen (fun WW hWW => ?_)
  have kx : ∀ (yk : Int32) (yl : Int32) (H1 : Heap) (locs1 : List Loc) (ls1 : Array Slot), 0 ≤ yk.toInt → yk.toInt ≤ 384 → -1 ≤ yl.toInt → yl.toInt ≤ 95 → tG D (gF cI cL cC gC gE G gW gA) t H1 → tF t wr0 s.heap H1 locs1 → lv_has ls1 3 [(2, .int yk), (1, .int yl), (0, .ref a0)] → WW H1 locs1 (F0 m 38 ls1 []) := by
    intro yk yl H locs ls v0 v1 v2 v3 hG hS hl
    refine (hWW _ _ _).mpr ?_
    refine lv_iload_n hx hb dX1_lastSeen_38 rfl (lv_at hl 1 rfl) ?_
    exact ty_iret hx hb hr hlk hG hS (by omega) dX1_lastSeen_39
  have loop : ∀ (k : Nat) (yk : Int32) (yl : Int32) (H1 : Heap) (locs1 : List Loc) (ls1 : Array Slot), 384 - yk.toInt ≤ (k : Int) → 0 ≤ yk.toInt → yk.toInt ≤ 384 → -1 ≤ yl.toInt → yl.toInt ≤ 95 → tG D (gF cI cL cC gC gE G gW gA) t H1 → tF t wr0 s.heap H1 locs1 → lv_has ls1 3 [(2, .int yk), (1, .int yl), (0, .ref a0)] → WW H1 locs1 (F0 m 4 ls1 []) := by
    intro k
    induction k with
    | zero =>
      intro yk yl H locs ls hk v0 v1 v2 v3 hG hS hl
      refine (hWW _ _ _).mpr ?_
      refine lv_iload_n hx hb dX1_lastSeen_4 rfl (lv_at hl 0 rfl) ?_
      refine lv_pc (pc2 := 5) rfl ?_
      refine lv_aload_n hx hb dX1_lastSeen_5 rfl (lv_at hl 2 rfl) ?_
      obtain ⟨r_1, r_3, r_5, at_7, h_2, h_4, h_6⟩ := gF_o6 hG k_a0
      refine va_get (D := D) (ci := 1) (v := .ref r_5) (C := RX1) (T := TX1) (N := 4) hx hb hts in1 hown hK (va_one at_7) 0 rfl rfl 2 (by decide) (hts (.fieldLink RX1 18 "RiverModel$Gauges" "seen" "[I") (List.mem_of_getElem? (i := 1) rfl)) (fun _ h9 => h9) rfl dX1_lastSeen_6 ?_
      obtain ⟨f_8, at_9⟩ := gF_o23 hG h_6
      refine va_alen (v := 384) hx hb hK (va_one at_9) 0 0 rfl rfl rfl dX1_lastSeen_9 ?_
      refine lv_icmp_ge (tgt := 38) hx hb dX1_lastSeen_10 (by decide) (fun c_10 => ?_) (fun c_10 => ?_)
      · skip
        have c_10 : 384 ≤ yk.toInt := q_le c_10
        exact (hWW _ _ _).mp (kx yk yl H locs ls (by omega) (by omega) (by omega) (by omega) hG hS (lv_sub hl [0, 1, 2] rfl))
      · skip
        have c_10 : yk.toInt < 384 := q_nle c_10
        refine lv_aload_n hx hb dX1_lastSeen_13 rfl (lv_at hl 2 rfl) ?_
        refine va_get (D := D) (ci := 1) (v := .ref r_5) (C := RX1) (T := TX1) (N := 4) hx hb hts in1 hown hK (va_one at_7) 0 rfl rfl 2 (by decide) (hts (.fieldLink RX1 18 "RiverModel$Gauges" "seen" "[I") (List.mem_of_getElem? (i := 1) rfl)) (fun _ h9 => h9) rfl dX1_lastSeen_14 ?_
        refine lv_iload_n hx hb dX1_lastSeen_17 rfl (lv_at hl 0 rfl) ?_
        have b_11 : vp_in yk 384 := (q_in (by omega) (by omega))
        refine va_iald hx hb hK (va_one at_9) 0 0 rfl rfl b_11 dX1_lastSeen_18 ?_
        refine lv_topi (fun x_12 e_13 => ?_)
        refine lv_pc (pc2 := 19) rfl ?_
        refine lv_iconst (v := (-1)) hx hb dX1_lastSeen_19 (by decide) ?_
        refine lv_icmp_eq (tgt := 32) hx hb dX1_lastSeen_20 (by decide) (fun c_14 => ?_) (fun c_14 => ?_)
        · skip
          have c_14 : x_12.toInt = (-1) := q_eq c_14
          obtain ⟨x_15, e_16⟩ : ∃ y : Int32, y = yk + Int32.ofInt 1 := ⟨_, rfl⟩
          have i_x_15 : x_15.toInt = yk.toInt + 1 := by rw [e_16, show Int32.ofInt 1 = 1 by decide]; exact (q_add (by rw [show (1 : Int32).toInt = 1 by decide]; omega) (by rw [show (1 : Int32).toInt = 1 by decide]; omega)).trans (by rw [show (1 : Int32).toInt = 1 by decide])
          refine lv_iinc (v := x_15) (lv' := [(2, .int x_15), (1, .int yl), (0, .ref a0)]) hx hb dX1_lastSeen_32 hl (k := 0) rfl e_16.symm (by decide) rfl (fun ls hl => ?_)
          refine lv_goto (tgt := 4) hx hb dX1_lastSeen_35 (by decide) ?_
          exfalso; omega
        · skip
          have c_14 : x_12.toInt ≠ (-1) := q_ne c_14
          refine lv_iload_n hx hb dX1_lastSeen_23 rfl (lv_at hl 1 rfl) ?_
          refine lv_iload_n hx hb dX1_lastSeen_24 rfl (lv_at hl 0 rfl) ?_
          refine lv_bipush (v := 96) hx hb dX1_lastSeen_25 (by decide) ?_
          refine lv_irem hx hb dX1_lastSeen_27 (by decide) ?_
          refine lv_topi (fun x_17 e_18 => ?_)
          have i_x_17 : 0 ≤ x_17.toInt ∧ x_17.toInt < 96 := by rw [e_18]; exact q_rem (n := 96) rfl (by decide) (by omega)
          refine lv_pc (pc2 := 28) rfl ?_
          refine va_mmax hx hb (by rw [hml]; exact hl.1.symm) hown (hts (.methodLink RX1 67 Lib.Math.max.name) (List.mem_of_getElem? (i := 2) rfl)) (hts (.static Lib.Math.max.name) (List.mem_of_getElem? (i := 3) rfl)) (hts (.initialized "java/lang/Math") (List.mem_of_getElem? (i := 4) rfl)) (hts (.code Lib.Math.max.name Lib.Math.max.code 2 (some .int)) (List.mem_of_getElem? (i := 5) rfl)) (Nat.le_of_ble_eq_true rfl) (Nat.le_of_ble_eq_true rfl) (Nat.zero_le _) (Nat.zero_le _) dX1_lastSeen_28 ?_
          refine lv_topi (fun x_19 e_20 => ?_)
          have m_x_19 : yl.toInt ≤ x_19.toInt ∧ x_17.toInt ≤ x_19.toInt ∧ (x_19.toInt = yl.toInt ∨ x_19.toInt = x_17.toInt) := by rw [e_20]; exact q_max _ _
          refine lv_istore_n (lv' := [(1, .int x_19), (2, .int yk), (0, .ref a0)]) hx hb dX1_lastSeen_31 rfl hl (by decide) rfl (fun ls hl => ?_)
          obtain ⟨x_21, e_22⟩ : ∃ y : Int32, y = yk + Int32.ofInt 1 := ⟨_, rfl⟩
          have i_x_21 : x_21.toInt = yk.toInt + 1 := by rw [e_22, show Int32.ofInt 1 = 1 by decide]; exact (q_add (by rw [show (1 : Int32).toInt = 1 by decide]; omega) (by rw [show (1 : Int32).toInt = 1 by decide]; omega)).trans (by rw [show (1 : Int32).toInt = 1 by decide])
          refine lv_iinc (v := x_21) (lv' := [(2, .int x_21), (1, .int x_19), (0, .ref a0)]) hx hb dX1_lastSeen_32 hl (k := 1) rfl e_22.symm (by decide) rfl (fun ls hl => ?_)
          refine lv_goto (tgt := 4) hx hb dX1_lastSeen_35 (by decide) ?_
          exfalso; omega
    | succ k ih =>
      intro yk yl H locs ls hk v0 v1 v2 v3 hG hS hl
      refine (hWW _ _ _).mpr ?_
      refine lv_iload_n hx hb dX1_lastSeen_4 rfl (lv_at hl 0 rfl) ?_
      refine lv_aload_n hx hb dX1_lastSeen_5 rfl (lv_at hl 2 rfl) ?_
      obtain ⟨r_23, r_25, r_27, at_29, h_24, h_26, h_28⟩ := gF_o6 hG k_a0
      refine va_get (D := D) (ci := 1) (v := .ref r_27) (C := RX1) (T := TX1) (N := 4) hx hb hts in1 hown hK (va_one at_29) 0 rfl rfl 2 (by decide) (hts (.fieldLink RX1 18 "RiverModel$Gauges" "seen" "[I") (List.mem_of_getElem? (i := 1) rfl)) (fun _ h9 => h9) rfl dX1_lastSeen_6 ?_
      obtain ⟨f_30, at_31⟩ := gF_o23 hG h_28
      refine va_alen (v := 384) hx hb hK (va_one at_31) 0 0 rfl rfl rfl dX1_lastSeen_9 ?_
      refine lv_pc (pc2 := 10) rfl ?_
      refine lv_icmp_ge (tgt := 38) hx hb dX1_lastSeen_10 (by decide) (fun c_32 => ?_) (fun c_32 => ?_)
      · skip
        have c_32 : 384 ≤ yk.toInt := q_le c_32
        exact (hWW _ _ _).mp (kx yk yl H locs ls (by omega) (by omega) (by omega) (by omega) hG hS (lv_sub hl [0, 1, 2] rfl))
      · skip
        have c_32 : yk.toInt < 384 := q_nle c_32
        refine lv_aload_n hx hb dX1_lastSeen_13 rfl (lv_at hl 2 rfl) ?_
        refine va_get (D := D) (ci := 1) (v := .ref r_27) (C := RX1) (T := TX1) (N := 4) hx hb hts in1 hown hK (va_one at_29) 0 rfl rfl 2 (by decide) (hts (.fieldLink RX1 18 "RiverModel$Gauges" "seen" "[I") (List.mem_of_getElem? (i := 1) rfl)) (fun _ h9 => h9) rfl dX1_lastSeen_14 ?_
        refine lv_iload_n hx hb dX1_lastSeen_17 rfl (lv_at hl 0 rfl) ?_
        have b_33 : vp_in yk 384 := (q_in (by omega) (by omega))
        refine va_iald hx hb hK (va_one at_31) 0 0 rfl rfl b_33 dX1_lastSeen_18 ?_
        refine lv_topi (fun x_34 e_35 => ?_)
        refine lv_iconst (v := (-1)) hx hb dX1_lastSeen_19 (by decide) ?_
        refine lv_icmp_eq (tgt := 32) hx hb dX1_lastSeen_20 (by decide) (fun c_36 => ?_) (fun c_36 => ?_)
        · skip
          have c_36 : x_34.toInt = (-1) := q_eq c_36
          obtain ⟨x_37, e_38⟩ : ∃ y : Int32, y = yk + Int32.ofInt 1 := ⟨_, rfl⟩
          have i_x_37 : x_37.toInt = yk.toInt + 1 := by rw [e_38, show Int32.ofInt 1 = 1 by decide]; exact (q_add (by rw [show (1 : Int32).toInt = 1 by decide]; omega) (by rw [show (1 : Int32).toInt = 1 by decide]; omega)).trans (by rw [show (1 : Int32).toInt = 1 by decide])
          refine lv_iinc (v := x_37) (lv' := [(2, .int x_37), (1, .int yl), (0, .ref a0)]) hx hb dX1_lastSeen_32 hl (k := 0) rfl e_38.symm (by decide) rfl (fun ls hl => ?_)
          refine lv_pc (pc2 := 35) rfl ?_
          refine lv_goto (tgt := 4) hx hb dX1_lastSeen_35 (by decide) ?_
          exact (hWW _ _ _).mp (ih x_37 yl H locs ls (by omega) (by omega) (by omega) (by omega) (by omega) hG hS (lv_sub hl [0, 1, 2] rfl))
        · skip
          have c_36 : x_34.toInt ≠ (-1) := q_ne c_36
          refine lv_iload_n hx hb dX1_lastSeen_23 rfl (lv_at hl 1 rfl) ?_
          refine lv_iload_n hx hb dX1_lastSeen_24 rfl (lv_at hl 0 rfl) ?_
          refine lv_bipush (v := 96) hx hb dX1_lastSeen_25 (by decide) ?_
          refine lv_irem hx hb dX1_lastSeen_27 (by decide) ?_
          refine lv_topi (fun x_39 e_40 => ?_)
          have i_x_39 : 0 ≤ x_39.toInt ∧ x_39.toInt < 96 := by rw [e_40]; exact q_rem (n := 96) rfl (by decide) (by omega)
          refine va_mmax hx hb (by rw [hml]; exact hl.1.symm) hown (hts (.methodLink RX1 67 Lib.Math.max.name) (List.mem_of_getElem? (i := 2) rfl)) (hts (.static Lib.Math.max.name) (List.mem_of_getElem? (i := 3) rfl)) (hts (.initialized "java/lang/Math") (List.mem_of_getElem? (i := 4) rfl)) (hts (.code Lib.Math.max.name Lib.Math.max.code 2 (some .int)) (List.mem_of_getElem? (i := 5) rfl)) (Nat.le_of_ble_eq_true rfl) (Nat.le_of_ble_eq_true rfl) (Nat.zero_le _) (Nat.zero_le _) dX1_lastSeen_28 ?_
          refine lv_topi (fun x_41 e_42 => ?_)
          have m_x_41 : yl.toInt ≤ x_41.toInt ∧ x_39.toInt ≤ x_41.toInt ∧ (x_41.toInt = yl.toInt ∨ x_41.toInt = x_39.toInt) := by rw [e_42]; exact q_max _ _
          refine lv_istore_n (lv' := [(1, .int x_41), (2, .int yk), (0, .ref a0)]) hx hb dX1_lastSeen_31 rfl hl (by decide) rfl (fun ls hl => ?_)
          obtain ⟨x_43, e_44⟩ : ∃ y : Int32, y = yk + Int32.ofInt 1 := ⟨_, rfl⟩
          have i_x_43 : x_43.toInt = yk.toInt + 1 := by rw [e_44, show Int32.ofInt 1 = 1 by decide]; exact (q_add (by rw [show (1 : Int32).toInt = 1 by decide]; omega) (by rw [show (1 : Int32).toInt = 1 by decide]; omega)).trans (by rw [show (1 : Int32).toInt = 1 by decide])
          refine lv_iinc (v := x_43) (lv' := [(2, .int x_43), (1, .int x_41), (0, .ref a0)]) hx hb dX1_lastSeen_32 hl (k := 1) rfl e_44.symm (by decide) rfl (fun ls hl => ?_)
          refine lv_pc (pc2 := 35) rfl ?_
          refine lv_goto (tgt := 4) hx hb dX1_lastSeen_35 (by decide) ?_
          exact (hWW _ _ _).mp (ih x_43 x_41 H locs ls (by omega) (by omega) (by omega) (by omega) (by omega) hG hS (lv_sub hl [0, 1, 2] rfl))
  have hz_yk : (0 : Int32).toInt = 0 := by decide
  have hz_yl : ((-1) : Int32).toInt = (-1) := by decide
  exact loop (384 - 0 : Int).toNat 0 (-1) H locs ls (by omega) (by omega) (by omega) (by omega) (by omega) hG hS (lv_sub hl [0, 1, 2] rfl)

def uX1_setMany : List Cond := .code yX1_setMany cX1_setMany 3 (some .int) :: ([.methodLink RX1 35 yX1_isSet, .instanceMethod yX1_isSet, .selects RX1 yX1_isSet yX1_isSet, .initialized RX1, .code yX1_isSet cX1_isSet 2 (some .boolean), .fieldLink RX1 9 "RiverModel$Gauges" "whats" "[I"] ++ wsX10)
set_option maxRecDepth 20000 in
theorem gu_X1_setMany_X1_isSet_35 : GoodIn uX1_setMany (wsV RX1 35 RX1 yX1_isSet uX1_isSet) := goodIn_r _ [1, 2, 3, 4, 5, 6, 7, 8, 9, 10] rfl (by decide +kernel)
set_option maxHeartbeats 4000000 in
set_option maxRecDepth 100000 in
theorem s_X1_setMany (l : Launch) (D : va_G) (t : Nat → Nat) (cI cL cC : ClassId) (gC : Int32) (gE : Int32) (G : Nat) (gW : Nat → Int32) (gA : Nat → Int32) (a0 : Nat) (k_a0 : t a0 = 6) : tM l yX1_setMany uX1_setMany 1 21 D (gF cI cL cC gC gE G gW gA) (gF cI cL cC gC gE G gW gA) t cI cL cC [.ref a0] wr0 (pI (fun r => True)) := by
  refine tM.ofW (cc := cX1_setMany) (maxL := 3) (ret := (some .int)) (by decide) rfl (Nat.le_of_ble_eq_true rfl) ?_
  intro p e s m below meth c hx hb hr hml hown hts hlk H locs hG hK hE hS ls hl
  have hl : lv_has ls 3 [(0, .ref a0)] := hl
  skip
  refine lv_iconst (v := 0) hx hb dX1_setMany_0 (by decide) ?_
  refine lv_istore_n (lv' := [(1, .int 0), (0, .ref a0)]) hx hb dX1_setMany_1 rfl hl (by decide) rfl (fun ls hl => ?_)
  refine lv_iconst (v := 0) hx hb dX1_setMany_2 (by decide) ?_
  refine lv_istore_n (lv' := [(2, .int 0), (1, .int 0), (0, .ref a0)]) hx hb dX1_setMany_3 rfl hl (by decide) rfl (fun ls hl => ?_)
  refine lv_pc (pc2 := 4) rfl ?_
  refine lp_gen (fun WW hWW => ?_)
  have kx : ∀ (yk : Int32) (ym : Int32) (H1 : Heap) (locs1 : List Loc) (ls1 : Array Slot), 0 ≤ yk.toInt → yk.toInt ≤ 4 → tG D (gF cI cL cC gC gE G gW gA) t H1 → tF t wr0 s.heap H1 locs1 → lv_has ls1 3 [(2, .int yk), (1, .int ym), (0, .ref a0)] → WW H1 locs1 (F0 m 31 ls1 []) := by
    intro yk ym H locs ls v0 v1 hG hS hl
    refine (hWW _ _ _).mpr ?_
    refine lv_iload_n hx hb dX1_setMany_31 rfl (lv_at hl 1 rfl) ?_
    exact ty_iret hx hb hr hlk hG hS True.intro dX1_setMany_32
  have loop : ∀ (k : Nat) (yk : Int32) (ym : Int32) (H1 : Heap) (locs1 : List Loc) (ls1 : Array Slot), 4 - yk.toInt ≤ (k : Int) → 0 ≤ yk.toInt → yk.toInt ≤ 4 → tG D (gF cI cL cC gC gE G gW gA) t H1 → tF t wr0 s.heap H1 locs1 → lv_has ls1 3 [(2, .int yk), (1, .int ym), (0, .ref a0)] → WW H1 locs1 (F0 m 4 ls1 []) := by
    intro k
    induction k with
    | zero =>
      intro yk ym H locs ls hk v0 v1 hG hS hl
      refine (hWW _ _ _).mpr ?_
      refine lv_iload_n hx hb dX1_setMany_4 rfl (lv_at hl 0 rfl) ?_
      refine lv_pc (pc2 := 5) rfl ?_
      refine lv_iconst (v := 4) hx hb dX1_setMany_5 (by decide) ?_
      refine lv_icmp_ge (tgt := 31) hx hb dX1_setMany_6 (by decide) (fun c_1 => ?_) (fun c_1 => ?_)
      · skip
        have c_1 : 4 ≤ yk.toInt := q_le c_1
        exact (hWW _ _ _).mp (kx yk ym H locs ls (by omega) (by omega) hG hS (lv_sub hl [0, 1, 2] rfl))
      · skip
        have c_1 : yk.toInt < 4 := q_nle c_1
        refine lv_iload_n hx hb dX1_setMany_9 rfl (lv_at hl 1 rfl) ?_
        refine lv_aload_n hx hb dX1_setMany_10 rfl (lv_at hl 2 rfl) ?_
        refine lv_iload_n hx hb dX1_setMany_11 rfl (lv_at hl 0 rfl) ?_
        obtain ⟨r_2, r_4, r_6, at_8, h_3, h_5, h_7⟩ := gF_o6 hG k_a0
        refine ty_calli ((W.runV (As := [.int yk]) (rest := [.int ym]) ⟨hx, hb, hml, hown, hts⟩ (s_X1_isSet l D t cI cL cC gC gE G gW gA a0 yk k_a0) (cwV 1 hts gu_X1_setMany_X1_isSet_35 rfl rfl rfl (by decide +kernel) ⟨Nat.le_of_ble_eq_true rfl, Nat.le_of_ble_eq_true rfl⟩) (tP_V hG hE at_8 rfl) rfl rfl hl.1 rfl (lv_room (Nat.le_of_ble_eq_true rfl)) dX1_setMany_12 ⟨Nat.le_of_ble_eq_true rfl, Nat.le_of_ble_eq_true rfl⟩)) hS (fun _ h => h) (fun r_9 H locs hp_10 hG hS o_11 => ?_)
        have at_8 := va_at.keptC at_8 o_11 k_a0 rfl
        rcases hp_10 with ⟨rfl, hc_71, hc_72⟩ | ⟨rfl, _⟩
        · skip
          refine lv_if_eq (tgt := 22) hx hb dX1_setMany_15 (by decide) (fun q => absurd q (by decide)) (fun _ => ?_)
          refine lv_iconst (v := 1) hx hb dX1_setMany_18 (by decide) ?_
          refine lv_pc (pc2 := 19) rfl ?_
          refine lv_goto (tgt := 23) hx hb dX1_setMany_19 (by decide) ?_
          refine lv_iadd hx hb dX1_setMany_23 ?_
          refine lv_topi (fun x_12 e_13 => ?_)
          refine lv_istore_n (lv' := [(1, .int x_12), (2, .int yk), (0, .ref a0)]) hx hb dX1_setMany_24 rfl hl (by decide) rfl (fun ls hl => ?_)
          obtain ⟨x_14, e_15⟩ : ∃ y : Int32, y = yk + Int32.ofInt 1 := ⟨_, rfl⟩
          have i_x_14 : x_14.toInt = yk.toInt + 1 := by rw [e_15, show Int32.ofInt 1 = 1 by decide]; exact (q_add (by rw [show (1 : Int32).toInt = 1 by decide]; omega) (by rw [show (1 : Int32).toInt = 1 by decide]; omega)).trans (by rw [show (1 : Int32).toInt = 1 by decide])
          refine lv_iinc (v := x_14) (lv' := [(2, .int x_14), (1, .int x_12), (0, .ref a0)]) hx hb dX1_setMany_25 hl (k := 1) rfl e_15.symm (by decide) rfl (fun ls hl => ?_)
          refine lv_goto (tgt := 4) hx hb dX1_setMany_28 (by decide) ?_
          exfalso; omega
        · skip
          refine lv_if_eq (tgt := 22) hx hb dX1_setMany_15 (by decide) (fun _ => ?_) (fun q => absurd (by decide) q)
          refine lv_iconst (v := 0) hx hb dX1_setMany_22 (by decide) ?_
          refine lv_iadd hx hb dX1_setMany_23 ?_
          refine lv_topi (fun x_16 e_17 => ?_)
          refine lv_pc (pc2 := 24) rfl ?_
          refine lv_istore_n (lv' := [(1, .int x_16), (2, .int yk), (0, .ref a0)]) hx hb dX1_setMany_24 rfl hl (by decide) rfl (fun ls hl => ?_)
          obtain ⟨x_18, e_19⟩ : ∃ y : Int32, y = yk + Int32.ofInt 1 := ⟨_, rfl⟩
          have i_x_18 : x_18.toInt = yk.toInt + 1 := by rw [e_19, show Int32.ofInt 1 = 1 by decide]; exact (q_add (by rw [show (1 : Int32).toInt = 1 by decide]; omega) (by rw [show (1 : Int32).toInt = 1 by decide]; omega)).trans (by rw [show (1 : Int32).toInt = 1 by decide])
          refine lv_iinc (v := x_18) (lv' := [(2, .int x_18), (1, .int x_16), (0, .ref a0)]) hx hb dX1_setMany_25 hl (k := 1) rfl e_19.symm (by decide) rfl (fun ls hl => ?_)
          refine lv_goto (tgt := 4) hx hb dX1_setMany_28 (by decide) ?_
          exfalso; omega
    | succ k ih =>
      intro yk ym H locs ls hk v0 v1 hG hS hl
      refine (hWW _ _ _).mpr ?_
      refine lv_iload_n hx hb dX1_setMany_4 rfl (lv_at hl 0 rfl) ?_
      refine lv_iconst (v := 4) hx hb dX1_setMany_5 (by decide) ?_
      refine lv_icmp_ge (tgt := 31) hx hb dX1_setMany_6 (by decide) (fun c_20 => ?_) (fun c_20 => ?_)
      · skip
        have c_20 : 4 ≤ yk.toInt := q_le c_20
        exact (hWW _ _ _).mp (kx yk ym H locs ls (by omega) (by omega) hG hS (lv_sub hl [0, 1, 2] rfl))
      · skip
        have c_20 : yk.toInt < 4 := q_nle c_20
        refine lv_iload_n hx hb dX1_setMany_9 rfl (lv_at hl 1 rfl) ?_
        refine lv_aload_n hx hb dX1_setMany_10 rfl (lv_at hl 2 rfl) ?_
        refine lv_pc (pc2 := 11) rfl ?_
        refine lv_iload_n hx hb dX1_setMany_11 rfl (lv_at hl 0 rfl) ?_
        obtain ⟨r_21, r_23, r_25, at_27, h_22, h_24, h_26⟩ := gF_o6 hG k_a0
        refine ty_calli ((W.runV (As := [.int yk]) (rest := [.int ym]) ⟨hx, hb, hml, hown, hts⟩ (s_X1_isSet l D t cI cL cC gC gE G gW gA a0 yk k_a0) (cwV 1 hts gu_X1_setMany_X1_isSet_35 rfl rfl rfl (by decide +kernel) ⟨Nat.le_of_ble_eq_true rfl, Nat.le_of_ble_eq_true rfl⟩) (tP_V hG hE at_27 rfl) rfl rfl hl.1 rfl (lv_room (Nat.le_of_ble_eq_true rfl)) dX1_setMany_12 ⟨Nat.le_of_ble_eq_true rfl, Nat.le_of_ble_eq_true rfl⟩)) hS (fun _ h => h) (fun r_28 H locs hp_29 hG hS o_30 => ?_)
        have at_27 := va_at.keptC at_27 o_30 k_a0 rfl
        rcases hp_29 with ⟨rfl, hc_73, hc_74⟩ | ⟨rfl, _⟩
        · skip
          refine lv_if_eq (tgt := 22) hx hb dX1_setMany_15 (by decide) (fun q => absurd q (by decide)) (fun _ => ?_)
          refine lv_iconst (v := 1) hx hb dX1_setMany_18 (by decide) ?_
          refine lv_goto (tgt := 23) hx hb dX1_setMany_19 (by decide) ?_
          refine lv_iadd hx hb dX1_setMany_23 ?_
          refine lv_topi (fun x_31 e_32 => ?_)
          refine lv_istore_n (lv' := [(1, .int x_31), (2, .int yk), (0, .ref a0)]) hx hb dX1_setMany_24 rfl hl (by decide) rfl (fun ls hl => ?_)
          obtain ⟨x_33, e_34⟩ : ∃ y : Int32, y = yk + Int32.ofInt 1 := ⟨_, rfl⟩
          have i_x_33 : x_33.toInt = yk.toInt + 1 := by rw [e_34, show Int32.ofInt 1 = 1 by decide]; exact (q_add (by rw [show (1 : Int32).toInt = 1 by decide]; omega) (by rw [show (1 : Int32).toInt = 1 by decide]; omega)).trans (by rw [show (1 : Int32).toInt = 1 by decide])
          refine lv_iinc (v := x_33) (lv' := [(2, .int x_33), (1, .int x_31), (0, .ref a0)]) hx hb dX1_setMany_25 hl (k := 1) rfl e_34.symm (by decide) rfl (fun ls hl => ?_)
          refine lv_pc (pc2 := 28) rfl ?_
          refine lv_goto (tgt := 4) hx hb dX1_setMany_28 (by decide) ?_
          exact (hWW _ _ _).mp (ih x_33 x_31 H locs ls (by omega) (by omega) (by omega) hG hS (lv_sub hl [0, 1, 2] rfl))
        · skip
          refine lv_if_eq (tgt := 22) hx hb dX1_setMany_15 (by decide) (fun _ => ?_) (fun q => absurd (by decide) q)
          refine lv_iconst (v := 0) hx hb dX1_setMany_22 (by decide) ?_
          refine lv_iadd hx hb dX1_setMany_23 ?_
          refine lv_topi (fun x_35 e_36 => ?_)
          refine lv_istore_n (lv' := [(1, .int x_35), (2, .int yk), (0, .ref a0)]) hx hb dX1_setMany_24 rfl hl (by decide) rfl (fun ls hl => ?_)
          obtain ⟨x_37, e_38⟩ : ∃ y : Int32, y = yk + Int32.ofInt 1 := ⟨_, rfl⟩
          have i_x_37 : x_37.toInt = yk.toInt + 1 := by rw [e_38, show Int32.ofInt 1 = 1 by decide]; exact (q_add (by rw [show (1 : Int32).toInt = 1 by decide]; omega) (by rw [show (1 : Int32).toInt = 1 by decide]; omega)).trans (by rw [show (1 : Int32).toInt = 1 by decide])
          refine lv_iinc (v := x_37) (lv' := [(2, .int x_37), (1, .int x_35), (0, .ref a0)]) hx hb dX1_setMany_25 hl (k := 1) rfl e_38.symm (by decide) rfl (fun ls hl => ?_)
          refine lv_goto (tgt := 4) hx hb dX1_setMany_28 (by decide) ?_
          exact (hWW _ _ _).mp (ih x_37 x_35 H locs ls (by omega) (by omega) (by omega) hG hS (lv_sub hl [0, 1, 2] rfl))
  have hz_yk : (0 : Int32).toInt = 0 := by decide
  have hz_ym : (0 : Int32).toInt = 0 := by decide
  exact loop (4 - 0 : Int).toNat 0 0 H locs ls (by omega) (by omega) (by omega) hG hS (lv_sub hl [0, 1, 2] rfl)

def uX1_seenMany : List Cond := .code yX1_seenMany cX1_seenMany 3 (some .int) :: ([.fieldLink RX1 18 "RiverModel$Gauges" "seen" "[I"] ++ wsX10)
set_option maxHeartbeats 4000000 in
set_option maxRecDepth 100000 in
theorem s_X1_seenMany (l : Launch) (D : va_G) (t : Nat → Nat) (cI cL cC : ClassId) (gC : Int32) (gE : Int32) (G : Nat) (gW : Nat → Int32) (gA : Nat → Int32) (a0 : Nat) (k_a0 : t a0 = 6) : tM l yX1_seenMany uX1_seenMany 0 0 D (gF cI cL cC gC gE G gW gA) (gF cI cL cC gC gE G gW gA) t cI cL cC [.ref a0] wr0 (pI (fun r => True)) := by
  refine tM.ofW (cc := cX1_seenMany) (maxL := 3) (ret := (some .int)) (by decide) rfl (Nat.le_of_ble_eq_true rfl) ?_
  intro p e s m below meth c hx hb hr hml hown hts hlk H locs hG hK hE hS ls hl
  have hl : lv_has ls 3 [(0, .ref a0)] := hl
  have in1 : ∀ w ∈ wsX10, w ∈ uX1_seenMany := fun w h => List.mem_cons_of_mem _ (List.mem_append_right _ h)
  refine lv_iconst (v := 0) hx hb dX1_seenMany_0 (by decide) ?_
  refine lv_istore_n (lv' := [(1, .int 0), (0, .ref a0)]) hx hb dX1_seenMany_1 rfl hl (by decide) rfl (fun ls hl => ?_)
  refine lv_iconst (v := 0) hx hb dX1_seenMany_2 (by decide) ?_
  refine lv_istore_n (lv' := [(2, .int 0), (1, .int 0), (0, .ref a0)]) hx hb dX1_seenMany_3 rfl hl (by decide) rfl (fun ls hl => ?_)
  refine lv_pc (pc2 := 4) rfl ?_
  refine lp_gen (fun WW hWW => ?_)
  have kx : ∀ (yk : Int32) (ym : Int32) (H1 : Heap) (locs1 : List Loc) (ls1 : Array Slot), 0 ≤ yk.toInt → yk.toInt ≤ 384 → tG D (gF cI cL cC gC gE G gW gA) t H1 → tF t wr0 s.heap H1 locs1 → lv_has ls1 3 [(2, .int yk), (1, .int ym), (0, .ref a0)] → WW H1 locs1 (F0 m 37 ls1 []) := by
    intro yk ym H locs ls v0 v1 hG hS hl
    refine (hWW _ _ _).mpr ?_
    refine lv_iload_n hx hb dX1_seenMany_37 rfl (lv_at hl 1 rfl) ?_
    exact ty_iret hx hb hr hlk hG hS True.intro dX1_seenMany_38
  have loop : ∀ (k : Nat) (yk : Int32) (ym : Int32) (H1 : Heap) (locs1 : List Loc) (ls1 : Array Slot), 384 - yk.toInt ≤ (k : Int) → 0 ≤ yk.toInt → yk.toInt ≤ 384 → tG D (gF cI cL cC gC gE G gW gA) t H1 → tF t wr0 s.heap H1 locs1 → lv_has ls1 3 [(2, .int yk), (1, .int ym), (0, .ref a0)] → WW H1 locs1 (F0 m 4 ls1 []) := by
    intro k
    induction k with
    | zero =>
      intro yk ym H locs ls hk v0 v1 hG hS hl
      refine (hWW _ _ _).mpr ?_
      refine lv_iload_n hx hb dX1_seenMany_4 rfl (lv_at hl 0 rfl) ?_
      refine lv_pc (pc2 := 5) rfl ?_
      refine lv_aload_n hx hb dX1_seenMany_5 rfl (lv_at hl 2 rfl) ?_
      obtain ⟨r_1, r_3, r_5, at_7, h_2, h_4, h_6⟩ := gF_o6 hG k_a0
      refine va_get (D := D) (ci := 1) (v := .ref r_5) (C := RX1) (T := TX1) (N := 4) hx hb hts in1 hown hK (va_one at_7) 0 rfl rfl 2 (by decide) (hts (.fieldLink RX1 18 "RiverModel$Gauges" "seen" "[I") (List.mem_of_getElem? (i := 1) rfl)) (fun _ h9 => h9) rfl dX1_seenMany_6 ?_
      obtain ⟨f_8, at_9⟩ := gF_o23 hG h_6
      refine va_alen (v := 384) hx hb hK (va_one at_9) 0 0 rfl rfl rfl dX1_seenMany_9 ?_
      refine lv_icmp_ge (tgt := 37) hx hb dX1_seenMany_10 (by decide) (fun c_10 => ?_) (fun c_10 => ?_)
      · skip
        have c_10 : 384 ≤ yk.toInt := q_le c_10
        exact (hWW _ _ _).mp (kx yk ym H locs ls (by omega) (by omega) hG hS (lv_sub hl [0, 1, 2] rfl))
      · skip
        have c_10 : yk.toInt < 384 := q_nle c_10
        refine lv_iload_n hx hb dX1_seenMany_13 rfl (lv_at hl 1 rfl) ?_
        refine lv_aload_n hx hb dX1_seenMany_14 rfl (lv_at hl 2 rfl) ?_
        refine va_get (D := D) (ci := 1) (v := .ref r_5) (C := RX1) (T := TX1) (N := 4) hx hb hts in1 hown hK (va_one at_7) 0 rfl rfl 2 (by decide) (hts (.fieldLink RX1 18 "RiverModel$Gauges" "seen" "[I") (List.mem_of_getElem? (i := 1) rfl)) (fun _ h9 => h9) rfl dX1_seenMany_15 ?_
        refine lv_iload_n hx hb dX1_seenMany_18 rfl (lv_at hl 0 rfl) ?_
        refine lv_pc (pc2 := 19) rfl ?_
        have b_11 : vp_in yk 384 := (q_in (by omega) (by omega))
        refine va_iald hx hb hK (va_one at_9) 0 0 rfl rfl b_11 dX1_seenMany_19 ?_
        refine lv_topi (fun x_12 e_13 => ?_)
        refine lv_iconst (v := (-1)) hx hb dX1_seenMany_20 (by decide) ?_
        refine lv_icmp_eq (tgt := 28) hx hb dX1_seenMany_21 (by decide) (fun c_14 => ?_) (fun c_14 => ?_)
        · skip
          have c_14 : x_12.toInt = (-1) := q_eq c_14
          refine lv_iconst (v := 0) hx hb dX1_seenMany_28 (by decide) ?_
          refine lv_iadd hx hb dX1_seenMany_29 ?_
          refine lv_topi (fun x_15 e_16 => ?_)
          refine lv_istore_n (lv' := [(1, .int x_15), (2, .int yk), (0, .ref a0)]) hx hb dX1_seenMany_30 rfl hl (by decide) rfl (fun ls hl => ?_)
          obtain ⟨x_17, e_18⟩ : ∃ y : Int32, y = yk + Int32.ofInt 1 := ⟨_, rfl⟩
          have i_x_17 : x_17.toInt = yk.toInt + 1 := by rw [e_18, show Int32.ofInt 1 = 1 by decide]; exact (q_add (by rw [show (1 : Int32).toInt = 1 by decide]; omega) (by rw [show (1 : Int32).toInt = 1 by decide]; omega)).trans (by rw [show (1 : Int32).toInt = 1 by decide])
          refine lv_iinc (v := x_17) (lv' := [(2, .int x_17), (1, .int x_15), (0, .ref a0)]) hx hb dX1_seenMany_31 hl (k := 1) rfl e_18.symm (by decide) rfl (fun ls hl => ?_)
          refine lv_goto (tgt := 4) hx hb dX1_seenMany_34 (by decide) ?_
          exfalso; omega
        · skip
          have c_14 : x_12.toInt ≠ (-1) := q_ne c_14
          refine lv_pc (pc2 := 24) rfl ?_
          refine lv_iconst (v := 1) hx hb dX1_seenMany_24 (by decide) ?_
          refine lv_goto (tgt := 29) hx hb dX1_seenMany_25 (by decide) ?_
          refine lv_iadd hx hb dX1_seenMany_29 ?_
          refine lv_topi (fun x_19 e_20 => ?_)
          refine lv_istore_n (lv' := [(1, .int x_19), (2, .int yk), (0, .ref a0)]) hx hb dX1_seenMany_30 rfl hl (by decide) rfl (fun ls hl => ?_)
          obtain ⟨x_21, e_22⟩ : ∃ y : Int32, y = yk + Int32.ofInt 1 := ⟨_, rfl⟩
          have i_x_21 : x_21.toInt = yk.toInt + 1 := by rw [e_22, show Int32.ofInt 1 = 1 by decide]; exact (q_add (by rw [show (1 : Int32).toInt = 1 by decide]; omega) (by rw [show (1 : Int32).toInt = 1 by decide]; omega)).trans (by rw [show (1 : Int32).toInt = 1 by decide])
          refine lv_iinc (v := x_21) (lv' := [(2, .int x_21), (1, .int x_19), (0, .ref a0)]) hx hb dX1_seenMany_31 hl (k := 1) rfl e_22.symm (by decide) rfl (fun ls hl => ?_)
          refine lv_goto (tgt := 4) hx hb dX1_seenMany_34 (by decide) ?_
          exfalso; omega
    | succ k ih =>
      intro yk ym H locs ls hk v0 v1 hG hS hl
      refine (hWW _ _ _).mpr ?_
      refine lv_iload_n hx hb dX1_seenMany_4 rfl (lv_at hl 0 rfl) ?_
      refine lv_aload_n hx hb dX1_seenMany_5 rfl (lv_at hl 2 rfl) ?_
      refine lv_pc (pc2 := 6) rfl ?_
      obtain ⟨r_23, r_25, r_27, at_29, h_24, h_26, h_28⟩ := gF_o6 hG k_a0
      refine va_get (D := D) (ci := 1) (v := .ref r_27) (C := RX1) (T := TX1) (N := 4) hx hb hts in1 hown hK (va_one at_29) 0 rfl rfl 2 (by decide) (hts (.fieldLink RX1 18 "RiverModel$Gauges" "seen" "[I") (List.mem_of_getElem? (i := 1) rfl)) (fun _ h9 => h9) rfl dX1_seenMany_6 ?_
      obtain ⟨f_30, at_31⟩ := gF_o23 hG h_28
      refine va_alen (v := 384) hx hb hK (va_one at_31) 0 0 rfl rfl rfl dX1_seenMany_9 ?_
      refine lv_icmp_ge (tgt := 37) hx hb dX1_seenMany_10 (by decide) (fun c_32 => ?_) (fun c_32 => ?_)
      · skip
        have c_32 : 384 ≤ yk.toInt := q_le c_32
        exact (hWW _ _ _).mp (kx yk ym H locs ls (by omega) (by omega) hG hS (lv_sub hl [0, 1, 2] rfl))
      · skip
        have c_32 : yk.toInt < 384 := q_nle c_32
        refine lv_iload_n hx hb dX1_seenMany_13 rfl (lv_at hl 1 rfl) ?_
        refine lv_aload_n hx hb dX1_seenMany_14 rfl (lv_at hl 2 rfl) ?_
        refine va_get (D := D) (ci := 1) (v := .ref r_27) (C := RX1) (T := TX1) (N := 4) hx hb hts in1 hown hK (va_one at_29) 0 rfl rfl 2 (by decide) (hts (.fieldLink RX1 18 "RiverModel$Gauges" "seen" "[I") (List.mem_of_getElem? (i := 1) rfl)) (fun _ h9 => h9) rfl dX1_seenMany_15 ?_
        refine lv_iload_n hx hb dX1_seenMany_18 rfl (lv_at hl 0 rfl) ?_
        have b_33 : vp_in yk 384 := (q_in (by omega) (by omega))
        refine va_iald hx hb hK (va_one at_31) 0 0 rfl rfl b_33 dX1_seenMany_19 ?_
        refine lv_topi (fun x_34 e_35 => ?_)
        refine lv_pc (pc2 := 20) rfl ?_
        refine lv_iconst (v := (-1)) hx hb dX1_seenMany_20 (by decide) ?_
        refine lv_icmp_eq (tgt := 28) hx hb dX1_seenMany_21 (by decide) (fun c_36 => ?_) (fun c_36 => ?_)
        · skip
          have c_36 : x_34.toInt = (-1) := q_eq c_36
          refine lv_iconst (v := 0) hx hb dX1_seenMany_28 (by decide) ?_
          refine lv_iadd hx hb dX1_seenMany_29 ?_
          refine lv_topi (fun x_37 e_38 => ?_)
          refine lv_istore_n (lv' := [(1, .int x_37), (2, .int yk), (0, .ref a0)]) hx hb dX1_seenMany_30 rfl hl (by decide) rfl (fun ls hl => ?_)
          obtain ⟨x_39, e_40⟩ : ∃ y : Int32, y = yk + Int32.ofInt 1 := ⟨_, rfl⟩
          have i_x_39 : x_39.toInt = yk.toInt + 1 := by rw [e_40, show Int32.ofInt 1 = 1 by decide]; exact (q_add (by rw [show (1 : Int32).toInt = 1 by decide]; omega) (by rw [show (1 : Int32).toInt = 1 by decide]; omega)).trans (by rw [show (1 : Int32).toInt = 1 by decide])
          refine lv_iinc (v := x_39) (lv' := [(2, .int x_39), (1, .int x_37), (0, .ref a0)]) hx hb dX1_seenMany_31 hl (k := 1) rfl e_40.symm (by decide) rfl (fun ls hl => ?_)
          refine lv_goto (tgt := 4) hx hb dX1_seenMany_34 (by decide) ?_
          exact (hWW _ _ _).mp (ih x_39 x_37 H locs ls (by omega) (by omega) (by omega) hG hS (lv_sub hl [0, 1, 2] rfl))
        · skip
          have c_36 : x_34.toInt ≠ (-1) := q_ne c_36
          refine lv_iconst (v := 1) hx hb dX1_seenMany_24 (by decide) ?_
          refine lv_pc (pc2 := 25) rfl ?_
          refine lv_goto (tgt := 29) hx hb dX1_seenMany_25 (by decide) ?_
          refine lv_iadd hx hb dX1_seenMany_29 ?_
          refine lv_topi (fun x_41 e_42 => ?_)
          refine lv_istore_n (lv' := [(1, .int x_41), (2, .int yk), (0, .ref a0)]) hx hb dX1_seenMany_30 rfl hl (by decide) rfl (fun ls hl => ?_)
          obtain ⟨x_43, e_44⟩ : ∃ y : Int32, y = yk + Int32.ofInt 1 := ⟨_, rfl⟩
          have i_x_43 : x_43.toInt = yk.toInt + 1 := by rw [e_44, show Int32.ofInt 1 = 1 by decide]; exact (q_add (by rw [show (1 : Int32).toInt = 1 by decide]; omega) (by rw [show (1 : Int32).toInt = 1 by decide]; omega)).trans (by rw [show (1 : Int32).toInt = 1 by decide])
          refine lv_iinc (v := x_43) (lv' := [(2, .int x_43), (1, .int x_41), (0, .ref a0)]) hx hb dX1_seenMany_31 hl (k := 1) rfl e_44.symm (by decide) rfl (fun ls hl => ?_)
          refine lv_goto (tgt := 4) hx hb dX1_seenMany_34 (by decide) ?_
          exact (hWW _ _ _).mp (ih x_43 x_41 H locs ls (by omega) (by omega) (by omega) hG hS (lv_sub hl [0, 1, 2] rfl))
  have hz_yk : (0 : Int32).toInt = 0 := by decide
  have hz_ym : (0 : Int32).toInt = 0 := by decide
  exact loop (384 - 0 : Int).toNat 0 0 H locs ls (by omega) (by omega) (by omega) hG hS (lv_sub hl [0, 1, 2] rfl)

def uX3_isSet : List Cond := .code yX3_isSet cX3_isSet 2 (some .boolean) :: ([.fieldLink RX3 24 "RiverModel$Knobs" "manys" "[I"] ++ wsX30)
set_option maxHeartbeats 4000000 in
set_option maxRecDepth 100000 in
theorem s_X3_isSet (l : Launch) (D : va_G) (t : Nat → Nat) (cI cL cC : ClassId) (gC : Int32) (gE : Int32) (G : Nat) (gW : Nat → Int32) (gA : Nat → Int32) (a0 : Nat) (a1 : Int32) (k_a0 : t a0 = 7) : tM l yX3_isSet uX3_isSet 0 0 D (gF cI cL cC gC gE G gW gA) (gF cI cL cC gC gE G gW gA) t cI cL cC [.ref a0, .int a1] wr0 (pI (fun r => (r = 1 ∧ 0 ≤ a1.toInt ∧ a1.toInt ≤ 1) ∨ (r = 0 ∧ True))) := by
  refine tM.ofW (cc := cX3_isSet) (maxL := 2) (ret := (some .boolean)) (by decide) rfl (Nat.le_of_ble_eq_true rfl) ?_
  intro p e s m below meth c hx hb hr hml hown hts hlk H locs hG hK hE hS ls hl
  have hl : lv_has ls 2 [(0, .ref a0), (1, .int a1)] := hl
  have in3 : ∀ w ∈ wsX30, w ∈ uX3_isSet := fun w h => List.mem_cons_of_mem _ (List.mem_append_right _ h)
  refine lv_iload_n hx hb dX3_isSet_0 rfl (lv_at hl 1 rfl) ?_
  refine lv_if_lt (tgt := 22) hx hb dX3_isSet_1 (by decide) (fun c_1 => ?_) (fun c_1 => ?_)
  · skip
    have c_1 : a1.toInt < 0 := q_lt c_1
    refine lv_iconst (v := 0) hx hb dX3_isSet_22 (by decide) ?_
    exact ty_zret hx hb hr hlk rfl hG hS (Or.inr ⟨rfl, trivial⟩) dX3_isSet_23
  · skip
    have c_1 : 0 ≤ a1.toInt := q_nlt c_1
    refine lv_iload_n hx hb dX3_isSet_4 rfl (lv_at hl 1 rfl) ?_
    refine lv_iconst (v := 2) hx hb dX3_isSet_5 (by decide) ?_
    refine lv_icmp_ge (tgt := 22) hx hb dX3_isSet_6 (by decide) (fun c_2 => ?_) (fun c_2 => ?_)
    · skip
      have c_2 : 2 ≤ a1.toInt := q_le c_2
      refine lv_pc (pc2 := 22) rfl ?_
      refine lv_iconst (v := 0) hx hb dX3_isSet_22 (by decide) ?_
      exact ty_zret hx hb hr hlk rfl hG hS (Or.inr ⟨rfl, trivial⟩) dX3_isSet_23
    · skip
      have c_2 : a1.toInt < 2 := q_nle c_2
      refine lv_aload_n hx hb dX3_isSet_9 rfl (lv_at hl 0 rfl) ?_
      obtain ⟨r_3, r_5, r_7, r_9, r_11, at_13, h_4, h_6, h_8, h_10, h_12⟩ := gF_o7 hG k_a0
      refine va_get (D := D) (ci := 2) (v := .ref r_11) (C := RX3) (T := TX3) (N := 5) hx hb hts in3 hown hK (va_one at_13) 0 rfl rfl 4 (by decide) (hts (.fieldLink RX3 24 "RiverModel$Knobs" "manys" "[I") (List.mem_of_getElem? (i := 1) rfl)) (fun _ h9 => h9) rfl dX3_isSet_10 ?_
      refine lv_iload_n hx hb dX3_isSet_13 rfl (lv_at hl 1 rfl) ?_
      obtain ⟨f_14, at_15, h_16⟩ := gF_o28 hG h_12
      have b_17 : vp_in a1 2 := (q_in (by omega) (by omega))
      refine va_iald hx hb hK (va_one at_15) 0 0 rfl rfl b_17 dX3_isSet_14 ?_
      refine lv_topi (fun x_18 e_19 => ?_)
      refine lv_if_le (tgt := 22) hx hb dX3_isSet_15 (by decide) (fun c_20 => ?_) (fun c_20 => ?_)
      · skip
        have c_20 : x_18.toInt ≤ 0 := q_le c_20
        refine lv_iconst (v := 0) hx hb dX3_isSet_22 (by decide) ?_
        refine lv_pc (pc2 := 23) rfl ?_
        exact ty_zret hx hb hr hlk rfl hG hS (Or.inr ⟨rfl, trivial⟩) dX3_isSet_23
      · skip
        have c_20 : 0 < x_18.toInt := q_nle c_20
        refine lv_iconst (v := 1) hx hb dX3_isSet_18 (by decide) ?_
        refine lv_goto (tgt := 23) hx hb dX3_isSet_19 (by decide) ?_
        exact ty_zret hx hb hr hlk rfl hG hS (Or.inl ⟨rfl, by omega, by omega⟩) dX3_isSet_23

def uX3_unsetAll : List Cond := .code yX3_unsetAll cX3_unsetAll 1 none :: ([.fieldLink RX3 24 "RiverModel$Knobs" "manys" "[I", .methodLink RX3 27 yJ7_fill_53178, .static yJ7_fill_53178, .initialized RJ7, .code yJ7_fill_53178 cJ7_fill_53178 4 none] ++ wsX30)
set_option maxRecDepth 20000 in
theorem gu_X3_unsetAll_J7_fill_53178_27 : GoodIn uX3_unsetAll (va_wsS RX3 27 yJ7_fill_53178 wsJ7_fill_53178) := goodIn_r _ [2, 3, 4, 5] rfl (by decide +kernel)
set_option maxHeartbeats 4000000 in
set_option maxRecDepth 100000 in
theorem s_X3_unsetAll (l : Launch) (D : va_G) (t : Nat → Nat) (cI cL cC : ClassId) (gC : Int32) (gE : Int32) (G : Nat) (gW : Nat → Int32) (gA : Nat → Int32) (a0 : Nat) (k_a0 : t a0 = 7) : tM l yX3_unsetAll uX3_unsetAll 1 23 D (gF cI cL cC gC gE G gW gA) (gF cI cL cC gC gE G gW gA) t cI cL cC [.ref a0] wrKn (pV (True)) := by
  refine tM.ofW (cc := cX3_unsetAll) (maxL := 1) (ret := none) (by decide) rfl (Nat.le_of_ble_eq_true rfl) ?_
  intro p e s m below meth c hx hb hr hml hown hts hlk H locs hG hK hE hS ls hl
  have hl : lv_has ls 1 [(0, .ref a0)] := hl
  have in3 : ∀ w ∈ wsX30, w ∈ uX3_unsetAll := fun w h => List.mem_cons_of_mem _ (List.mem_append_right _ h)
  refine lv_aload_n hx hb dX3_unsetAll_0 rfl (lv_at hl 0 rfl) ?_
  obtain ⟨r_1, r_3, r_5, r_7, r_9, at_11, h_2, h_4, h_6, h_8, h_10⟩ := gF_o7 hG k_a0
  refine va_get (D := D) (ci := 2) (v := .ref r_9) (C := RX3) (T := TX3) (N := 5) hx hb hts in3 hown hK (va_one at_11) 0 rfl rfl 4 (by decide) (hts (.fieldLink RX3 24 "RiverModel$Knobs" "manys" "[I") (List.mem_of_getElem? (i := 1) rfl)) (fun _ h9 => h9) rfl dX3_unsetAll_1 ?_
  refine lv_iconst (v := 0) hx hb dX3_unsetAll_4 (by decide) ?_
  obtain ⟨f_12, at_13, h_14⟩ := gF_o28 hG h_10
  refine nw_row (W.runS (As := [.ref r_9, .int 0]) (rest := []) ⟨hx, hb, hml, hown, hts⟩ (c_fillI l D cI cL cC r_9 2 f_12 0 (by decide)) (va_cwS 2 hts gu_X3_unsetAll_J7_fill_53178_27 rfl rfl rfl (by decide +kernel) ⟨Nat.le_of_ble_eq_true rfl, Nat.le_of_ble_eq_true rfl⟩) (rP_S at_13 hE) rfl rfl hl.1 rfl (lv_room (Nat.le_of_ble_eq_true rfl)) dX3_unsetAll_5 ⟨Nat.le_of_ble_eq_true rfl, Nat.le_of_ble_eq_true rfl⟩) (fun H L ee hp at_20 hz_18 o_16 hL_19 => ?_)
  obtain ⟨g_15, rfl, hg_17⟩ := hp
  replace hG : tG D (gF cI cL cC gC gE G gW gA) t H := tG.set hG at_20 (by rw [h_10]; exact ⟨_, rfl, (gMany_all hg_17 (by decide))⟩) o_16
  replace hS := tF.row hS hz_18 o_16 hL_19 (by rw [h_10]; rfl)
  generalize _ ++ L = locs at hS ⊢
  have at_11 := va_at.keptK at_11 o_16 h_10 k_a0 rfl
  exact ty_vret hx hb hr hlk hG hS True.intro dX3_unsetAll_8

def uX3_set : List Cond := .code yX3_set cX3_set 7 none :: ([.initialized RX9, .static yX9_isNoKnob, .fieldLink RX3 9 "RiverModel$Knobs" "items" "[I", .fieldLink RX3 15 "RiverModel$Knobs" "numbers" "[I", .fieldLink RX3 18 "RiverModel$Knobs" "froms" "[I", .fieldLink RX3 21 "RiverModel$Knobs" "steps" "[I", .fieldLink RX3 24 "RiverModel$Knobs" "manys" "[I", .code yX9_isNoKnob cX9_isNoKnob 1 (some .boolean)] ++ wsX30)
set_option maxRecDepth 20000 in
theorem gu_X3_set_X9_isNoKnob_n : GoodIn uX3_set (uX9_isNoKnob) := goodIn_r _ [8] rfl (by decide +kernel)
set_option maxHeartbeats 4000000 in
set_option maxRecDepth 100000 in
theorem s_X3_set (l : Launch) (D : va_G) (t : Nat → Nat) (cI cL cC : ClassId) (gC : Int32) (gE : Int32) (G : Nat) (gW : Nat → Int32) (gA : Nat → Int32) (a0 : Nat) (a1 : Int32) (a2 : Int32) (a3 : Int32) (a4 : Int32) (a5 : Int32) (a6 : Int32) (h0m : 0 ≤ a6.toInt) (h16 : a6.toInt ≤ 16) (k_a0 : t a0 = 7) : tM l yX3_set uX3_set 1 20 D (gF cI cL cC gC gE G gW gA) (gF cI cL cC gC gE G gW gA) t cI cL cC [.ref a0, .int a1, .int a2, .int a3, .int a4, .int a5, .int a6] wrKn (pV (True)) := by
  refine tM.ofW (cc := cX3_set) (maxL := 7) (ret := none) (by decide) rfl (Nat.le_of_ble_eq_true rfl) ?_
  intro p e s m below meth c hx hb hr hml hown hts hlk H locs hG hK hE hS ls hl
  have hl : lv_has ls 7 [(0, .ref a0), (1, .int a1), (2, .int a2), (3, .int a3), (4, .int a4), (5, .int a5), (6, .int a6)] := hl
  have in3 : ∀ w ∈ wsX30, w ∈ uX3_set := fun w h => List.mem_cons_of_mem _ (List.mem_append_right _ h)
  refine lv_iload_n hx hb dX3_set_0 rfl (lv_at hl 1 rfl) ?_
  refine ty_calli (tRun (va_runSN (As := [.int a1]) (rest := []) ⟨hx, hb, hml, hown, hts⟩ (s_X9_isNoKnob l D t cI cL cC gC gE G gW gA a1 ) ⟨(va_cnB 1 hts gu_X3_set_X9_isNoKnob_n rfl rfl rfl (hE.2.1 _ (List.mem_of_getElem? (i := 19) rfl)) (hts (.initialized RX9) (List.mem_of_getElem? (i := 1) rfl)) (by decide +kernel) ⟨Nat.le_of_ble_eq_true rfl, Nat.le_of_ble_eq_true rfl⟩), (hts (.static yX9_isNoKnob) (List.mem_of_getElem? (i := 2) rfl)), trivial⟩ (tP_S hG hE) rfl rfl hl.1 rfl (lv_room (Nat.le_of_ble_eq_true rfl)) dX3_set_1 ⟨Nat.le_of_ble_eq_true rfl, Nat.le_of_ble_eq_true rfl⟩)) hS (fun k h => by simp [wr0] at h) (fun r_1 H locs hp_2 hG hS o_3 => ?_)
  rcases hp_2 with ⟨rfl, hc_75⟩ | ⟨rfl, hc_76, hc_77⟩
  · skip
    refine lv_if_eq (tgt := 8) hx hb dX3_set_4 (by decide) (fun q => absurd q (by decide)) (fun _ => ?_)
    exact ty_vret hx hb hr hlk hG hS True.intro dX3_set_7
  · skip
    refine lv_if_eq (tgt := 8) hx hb dX3_set_4 (by decide) (fun _ => ?_) (fun q => absurd (by decide) q)
    refine lv_aload_n hx hb dX3_set_8 rfl (lv_at hl 0 rfl) ?_
    obtain ⟨r_4, r_6, r_8, r_10, r_12, at_14, h_5, h_7, h_9, h_11, h_13⟩ := gF_o7 hG k_a0
    refine va_get (D := D) (ci := 2) (v := .ref r_4) (C := RX3) (T := TX3) (N := 5) hx hb hts in3 hown hK (va_one at_14) 0 rfl rfl 0 (by decide) (hts (.fieldLink RX3 9 "RiverModel$Knobs" "items" "[I") (List.mem_of_getElem? (i := 3) rfl)) (fun _ h9 => h9) rfl dX3_set_9 ?_
    refine lv_pc (pc2 := 12) rfl ?_
    refine lv_iload_n hx hb dX3_set_12 rfl (lv_at hl 1 rfl) ?_
    refine lv_iload_n hx hb dX3_set_13 rfl (lv_at hl 2 rfl) ?_
    obtain ⟨f_15, at_16⟩ := gF_o24 hG h_5
    have b_17 : vp_in a1 2 := (q_in (by omega) (by omega))
    refine ty_iast (F2 := (gF cI cL cC gC gE G gW gA)) hx hb hK hG hS 0 at_16 (by rw [h_5]; rfl) rfl b_17 (by rw [h_5]; exact ⟨_, rfl⟩) tFF dX3_set_14 (fun H locs hG hS at_18 o_19 => ?_)
    have at_14 := va_at.keptK at_14 o_19 h_5 k_a0 rfl
    refine lv_aload_n hx hb dX3_set_15 rfl (lv_at hl 0 rfl) ?_
    refine va_get (D := D) (ci := 2) (v := .ref r_6) (C := RX3) (T := TX3) (N := 5) hx hb hts in3 hown hK (va_one at_14) 0 rfl rfl 1 (by decide) (hts (.fieldLink RX3 15 "RiverModel$Knobs" "numbers" "[I") (List.mem_of_getElem? (i := 4) rfl)) (fun _ h9 => h9) rfl dX3_set_16 ?_
    refine lv_iload_n hx hb dX3_set_19 rfl (lv_at hl 1 rfl) ?_
    refine lv_iload_n hx hb dX3_set_20 rfl (lv_at hl 3 rfl) ?_
    obtain ⟨f_20, at_21⟩ := gF_o25 hG h_7
    have b_22 : vp_in a1 2 := (q_in (by omega) (by omega))
    refine ty_iast (F2 := (gF cI cL cC gC gE G gW gA)) hx hb hK hG hS 0 at_21 (by rw [h_7]; rfl) rfl b_22 (by rw [h_7]; exact ⟨_, rfl⟩) tFF dX3_set_21 (fun H locs hG hS at_23 o_24 => ?_)
    have at_14 := va_at.keptK at_14 o_24 h_7 k_a0 rfl
    refine lv_pc (pc2 := 22) rfl ?_
    refine lv_aload_n hx hb dX3_set_22 rfl (lv_at hl 0 rfl) ?_
    refine va_get (D := D) (ci := 2) (v := .ref r_8) (C := RX3) (T := TX3) (N := 5) hx hb hts in3 hown hK (va_one at_14) 0 rfl rfl 2 (by decide) (hts (.fieldLink RX3 18 "RiverModel$Knobs" "froms" "[I") (List.mem_of_getElem? (i := 5) rfl)) (fun _ h9 => h9) rfl dX3_set_23 ?_
    refine lv_iload_n hx hb dX3_set_26 rfl (lv_at hl 1 rfl) ?_
    refine lv_iload hx hb dX3_set_27 (lv_at hl 4 rfl) ?_
    obtain ⟨f_25, at_26⟩ := gF_o26 hG h_9
    have b_27 : vp_in a1 2 := (q_in (by omega) (by omega))
    refine ty_iast (F2 := (gF cI cL cC gC gE G gW gA)) hx hb hK hG hS 0 at_26 (by rw [h_9]; rfl) rfl b_27 (by rw [h_9]; exact ⟨_, rfl⟩) tFF dX3_set_29 (fun H locs hG hS at_28 o_29 => ?_)
    have at_14 := va_at.keptK at_14 o_29 h_9 k_a0 rfl
    refine lv_aload_n hx hb dX3_set_30 rfl (lv_at hl 0 rfl) ?_
    refine va_get (D := D) (ci := 2) (v := .ref r_10) (C := RX3) (T := TX3) (N := 5) hx hb hts in3 hown hK (va_one at_14) 0 rfl rfl 3 (by decide) (hts (.fieldLink RX3 21 "RiverModel$Knobs" "steps" "[I") (List.mem_of_getElem? (i := 6) rfl)) (fun _ h9 => h9) rfl dX3_set_31 ?_
    refine lv_iload_n hx hb dX3_set_34 rfl (lv_at hl 1 rfl) ?_
    refine lv_pc (pc2 := 35) rfl ?_
    refine lv_iload hx hb dX3_set_35 (lv_at hl 5 rfl) ?_
    obtain ⟨f_30, at_31⟩ := gF_o27 hG h_11
    have b_32 : vp_in a1 2 := (q_in (by omega) (by omega))
    refine ty_iast (F2 := (gF cI cL cC gC gE G gW gA)) hx hb hK hG hS 0 at_31 (by rw [h_11]; rfl) rfl b_32 (by rw [h_11]; exact ⟨_, rfl⟩) tFF dX3_set_37 (fun H locs hG hS at_33 o_34 => ?_)
    have at_14 := va_at.keptK at_14 o_34 h_11 k_a0 rfl
    refine lv_aload_n hx hb dX3_set_38 rfl (lv_at hl 0 rfl) ?_
    refine va_get (D := D) (ci := 2) (v := .ref r_12) (C := RX3) (T := TX3) (N := 5) hx hb hts in3 hown hK (va_one at_14) 0 rfl rfl 4 (by decide) (hts (.fieldLink RX3 24 "RiverModel$Knobs" "manys" "[I") (List.mem_of_getElem? (i := 7) rfl)) (fun _ h9 => h9) rfl dX3_set_39 ?_
    refine lv_iload_n hx hb dX3_set_42 rfl (lv_at hl 1 rfl) ?_
    refine lv_iload hx hb dX3_set_43 (lv_at hl 6 rfl) ?_
    obtain ⟨f_35, at_36, h_37⟩ := gF_o28 hG h_13
    have b_38 : vp_in a1 2 := (q_in (by omega) (by omega))
    refine ty_iast (F2 := (gF cI cL cC gC gE G gW gA)) hx hb hK hG hS 0 at_36 (by rw [h_13]; rfl) rfl b_38 (by rw [h_13]; exact ⟨_, rfl, gMany_upd h_37 (by omega)⟩) tFF dX3_set_45 (fun H locs hG hS at_39 o_40 => ?_)
    have at_14 := va_at.keptK at_14 o_40 h_13 k_a0 rfl
    exact ty_vret hx hb hr hlk hG hS True.intro dX3_set_46

def uX3_setMany : List Cond := .code yX3_setMany cX3_setMany 1 (some .int) :: ([.methodLink RX3 37 yX3_isSet, .instanceMethod yX3_isSet, .selects RX3 yX3_isSet yX3_isSet, .initialized RX3, .code yX3_isSet cX3_isSet 2 (some .boolean), .fieldLink RX3 24 "RiverModel$Knobs" "manys" "[I"] ++ wsX30)
set_option maxRecDepth 20000 in
theorem gu_X3_setMany_X3_isSet_37 : GoodIn uX3_setMany (wsV RX3 37 RX3 yX3_isSet uX3_isSet) := goodIn_r _ [1, 2, 3, 4, 5, 6, 7, 8, 9, 10, 11] rfl (by decide +kernel)
set_option maxHeartbeats 4000000 in
set_option maxRecDepth 100000 in
theorem s_X3_setMany (l : Launch) (D : va_G) (t : Nat → Nat) (cI cL cC : ClassId) (gC : Int32) (gE : Int32) (G : Nat) (gW : Nat → Int32) (gA : Nat → Int32) (a0 : Nat) (k_a0 : t a0 = 7) : tM l yX3_setMany uX3_setMany 1 21 D (gF cI cL cC gC gE G gW gA) (gF cI cL cC gC gE G gW gA) t cI cL cC [.ref a0] wr0 (pI (fun r => True)) := by
  refine tM.ofW (cc := cX3_setMany) (maxL := 1) (ret := (some .int)) (by decide) rfl (Nat.le_of_ble_eq_true rfl) ?_
  intro p e s m below meth c hx hb hr hml hown hts hlk H locs hG hK hE hS ls hl
  have hl : lv_has ls 1 [(0, .ref a0)] := hl
  skip
  refine lv_aload_n hx hb dX3_setMany_0 rfl (lv_at hl 0 rfl) ?_
  refine lv_iconst (v := 0) hx hb dX3_setMany_1 (by decide) ?_
  obtain ⟨r_1, r_3, r_5, r_7, r_9, at_11, h_2, h_4, h_6, h_8, h_10⟩ := gF_o7 hG k_a0
  refine ty_calli ((W.runV (As := [.int 0]) (rest := []) ⟨hx, hb, hml, hown, hts⟩ (s_X3_isSet l D t cI cL cC gC gE G gW gA a0 0 k_a0) (cwV 1 hts gu_X3_setMany_X3_isSet_37 rfl rfl rfl (by decide +kernel) ⟨Nat.le_of_ble_eq_true rfl, Nat.le_of_ble_eq_true rfl⟩) (tP_V hG hE at_11 rfl) rfl rfl hl.1 rfl (lv_room (Nat.le_of_ble_eq_true rfl)) dX3_setMany_2 ⟨Nat.le_of_ble_eq_true rfl, Nat.le_of_ble_eq_true rfl⟩)) hS (fun _ h => h) (fun r_12 H locs hp_13 hG hS o_14 => ?_)
  have at_11 := va_at.keptC at_11 o_14 k_a0 rfl
  rcases hp_13 with ⟨rfl, hc_78, hc_79⟩ | ⟨rfl, _⟩
  · skip
    refine lv_if_eq (tgt := 12) hx hb dX3_setMany_5 (by decide) (fun q => absurd q (by decide)) (fun _ => ?_)
    refine lv_iconst (v := 1) hx hb dX3_setMany_8 (by decide) ?_
    refine lv_goto (tgt := 13) hx hb dX3_setMany_9 (by decide) ?_
    refine lv_aload_n hx hb dX3_setMany_13 rfl (lv_at hl 0 rfl) ?_
    refine lv_pc (pc2 := 14) rfl ?_
    refine lv_iconst (v := 1) hx hb dX3_setMany_14 (by decide) ?_
    refine ty_calli ((W.runV (As := [.int 1]) (rest := [.int 1]) ⟨hx, hb, hml, hown, hts⟩ (s_X3_isSet l D t cI cL cC gC gE G gW gA a0 1 k_a0) (cwV 1 hts gu_X3_setMany_X3_isSet_37 rfl rfl rfl (by decide +kernel) ⟨Nat.le_of_ble_eq_true rfl, Nat.le_of_ble_eq_true rfl⟩) (tP_V hG hE at_11 rfl) rfl rfl hl.1 rfl (lv_room (Nat.le_of_ble_eq_true rfl)) dX3_setMany_15 ⟨Nat.le_of_ble_eq_true rfl, Nat.le_of_ble_eq_true rfl⟩)) hS (fun _ h => h) (fun r_15 H locs hp_16 hG hS o_17 => ?_)
    have at_11 := va_at.keptC at_11 o_17 k_a0 rfl
    rcases hp_16 with ⟨rfl, hc_80, hc_81⟩ | ⟨rfl, _⟩
    · skip
      refine lv_if_eq (tgt := 25) hx hb dX3_setMany_18 (by decide) (fun q => absurd q (by decide)) (fun _ => ?_)
      refine lv_iconst (v := 1) hx hb dX3_setMany_21 (by decide) ?_
      refine lv_goto (tgt := 26) hx hb dX3_setMany_22 (by decide) ?_
      refine lv_iadd hx hb dX3_setMany_26 ?_
      refine lv_seti (y := 2) (by decide) ?_
      exact ty_iret hx hb hr hlk hG hS True.intro dX3_setMany_27
    · skip
      refine lv_if_eq (tgt := 25) hx hb dX3_setMany_18 (by decide) (fun _ => ?_) (fun q => absurd (by decide) q)
      refine lv_pc (pc2 := 25) rfl ?_
      refine lv_iconst (v := 0) hx hb dX3_setMany_25 (by decide) ?_
      refine lv_iadd hx hb dX3_setMany_26 ?_
      refine lv_seti (y := 1) (by decide) ?_
      exact ty_iret hx hb hr hlk hG hS True.intro dX3_setMany_27
  · skip
    refine lv_if_eq (tgt := 12) hx hb dX3_setMany_5 (by decide) (fun _ => ?_) (fun q => absurd (by decide) q)
    refine lv_iconst (v := 0) hx hb dX3_setMany_12 (by decide) ?_
    refine lv_aload_n hx hb dX3_setMany_13 rfl (lv_at hl 0 rfl) ?_
    refine lv_iconst (v := 1) hx hb dX3_setMany_14 (by decide) ?_
    refine ty_calli ((W.runV (As := [.int 1]) (rest := [.int 0]) ⟨hx, hb, hml, hown, hts⟩ (s_X3_isSet l D t cI cL cC gC gE G gW gA a0 1 k_a0) (cwV 1 hts gu_X3_setMany_X3_isSet_37 rfl rfl rfl (by decide +kernel) ⟨Nat.le_of_ble_eq_true rfl, Nat.le_of_ble_eq_true rfl⟩) (tP_V hG hE at_11 rfl) rfl rfl hl.1 rfl (lv_room (Nat.le_of_ble_eq_true rfl)) dX3_setMany_15 ⟨Nat.le_of_ble_eq_true rfl, Nat.le_of_ble_eq_true rfl⟩)) hS (fun _ h => h) (fun r_18 H locs hp_19 hG hS o_20 => ?_)
    have at_11 := va_at.keptC at_11 o_20 k_a0 rfl
    rcases hp_19 with ⟨rfl, hc_82, hc_83⟩ | ⟨rfl, _⟩
    · skip
      refine lv_pc (pc2 := 18) rfl ?_
      refine lv_if_eq (tgt := 25) hx hb dX3_setMany_18 (by decide) (fun q => absurd q (by decide)) (fun _ => ?_)
      refine lv_iconst (v := 1) hx hb dX3_setMany_21 (by decide) ?_
      refine lv_goto (tgt := 26) hx hb dX3_setMany_22 (by decide) ?_
      refine lv_iadd hx hb dX3_setMany_26 ?_
      refine lv_seti (y := 1) (by decide) ?_
      exact ty_iret hx hb hr hlk hG hS True.intro dX3_setMany_27
    · skip
      refine lv_if_eq (tgt := 25) hx hb dX3_setMany_18 (by decide) (fun _ => ?_) (fun q => absurd (by decide) q)
      refine lv_iconst (v := 0) hx hb dX3_setMany_25 (by decide) ?_
      refine lv_iadd hx hb dX3_setMany_26 ?_
      refine lv_seti (y := 0) (by decide) ?_
      refine lv_pc (pc2 := 27) rfl ?_
      exact ty_iret hx hb hr hlk hG hS True.intro dX3_setMany_27

def uX3_pointsOf : List Cond := .code yX3_pointsOf cX3_pointsOf 2 (some .int) :: ([.methodLink RX3 37 yX3_isSet, .instanceMethod yX3_isSet, .selects RX3 yX3_isSet yX3_isSet, .initialized RX3, .fieldLink RX3 24 "RiverModel$Knobs" "manys" "[I", .code yX3_isSet cX3_isSet 2 (some .boolean)] ++ wsX30)
set_option maxRecDepth 20000 in
theorem gu_X3_pointsOf_X3_isSet_37 : GoodIn uX3_pointsOf (wsV RX3 37 RX3 yX3_isSet uX3_isSet) := goodIn_r _ [1, 2, 3, 4, 6, 5, 7, 8, 9, 10, 11] rfl (by decide +kernel)
set_option maxHeartbeats 4000000 in
set_option maxRecDepth 100000 in
theorem s_X3_pointsOf (l : Launch) (D : va_G) (t : Nat → Nat) (cI cL cC : ClassId) (gC : Int32) (gE : Int32) (G : Nat) (gW : Nat → Int32) (gA : Nat → Int32) (a0 : Nat) (a1 : Int32) (k_a0 : t a0 = 7) : tM l yX3_pointsOf uX3_pointsOf 1 21 D (gF cI cL cC gC gE G gW gA) (gF cI cL cC gC gE G gW gA) t cI cL cC [.ref a0, .int a1] wr0 (pI (fun r => 0 ≤ r.toInt ∧ r.toInt ≤ 16)) := by
  refine tM.ofW (cc := cX3_pointsOf) (maxL := 2) (ret := (some .int)) (by decide) rfl (Nat.le_of_ble_eq_true rfl) ?_
  intro p e s m below meth c hx hb hr hml hown hts hlk H locs hG hK hE hS ls hl
  have hl : lv_has ls 2 [(0, .ref a0), (1, .int a1)] := hl
  have in3 : ∀ w ∈ wsX30, w ∈ uX3_pointsOf := fun w h => List.mem_cons_of_mem _ (List.mem_append_right _ h)
  refine lv_aload_n hx hb dX3_pointsOf_0 rfl (lv_at hl 0 rfl) ?_
  refine lv_iload_n hx hb dX3_pointsOf_1 rfl (lv_at hl 1 rfl) ?_
  obtain ⟨r_1, r_3, r_5, r_7, r_9, at_11, h_2, h_4, h_6, h_8, h_10⟩ := gF_o7 hG k_a0
  refine ty_calli ((W.runV (As := [.int a1]) (rest := []) ⟨hx, hb, hml, hown, hts⟩ (s_X3_isSet l D t cI cL cC gC gE G gW gA a0 a1 k_a0) (cwV 1 hts gu_X3_pointsOf_X3_isSet_37 rfl rfl rfl (by decide +kernel) ⟨Nat.le_of_ble_eq_true rfl, Nat.le_of_ble_eq_true rfl⟩) (tP_V hG hE at_11 rfl) rfl rfl hl.1 rfl (lv_room (Nat.le_of_ble_eq_true rfl)) dX3_pointsOf_2 ⟨Nat.le_of_ble_eq_true rfl, Nat.le_of_ble_eq_true rfl⟩)) hS (fun _ h => h) (fun r_12 H locs hp_13 hG hS o_14 => ?_)
  have at_11 := va_at.keptC at_11 o_14 k_a0 rfl
  rcases hp_13 with ⟨rfl, hc_84, hc_85⟩ | ⟨rfl, _⟩
  · skip
    refine lv_if_eq (tgt := 17) hx hb dX3_pointsOf_5 (by decide) (fun q => absurd q (by decide)) (fun _ => ?_)
    refine lv_aload_n hx hb dX3_pointsOf_8 rfl (lv_at hl 0 rfl) ?_
    refine va_get (D := D) (ci := 2) (v := .ref r_9) (C := RX3) (T := TX3) (N := 5) hx hb hts in3 hown hK (va_one at_11) 0 rfl rfl 4 (by decide) (hts (.fieldLink RX3 24 "RiverModel$Knobs" "manys" "[I") (List.mem_of_getElem? (i := 5) rfl)) (fun _ h9 => h9) rfl dX3_pointsOf_9 ?_
    refine lv_iload_n hx hb dX3_pointsOf_12 rfl (lv_at hl 1 rfl) ?_
    refine lv_pc (pc2 := 13) rfl ?_
    obtain ⟨f_15, at_16, h_17⟩ := gF_o28 hG h_10
    have b_18 : vp_in a1 2 := (q_in (by omega) (by omega))
    refine va_iald hx hb hK (va_one at_16) 0 0 rfl rfl b_18 dX3_pointsOf_13 ?_
    refine lv_topi (fun x_19 e_20 => ?_)
    have g_x_19 : 0 ≤ x_19.toInt ∧ x_19.toInt ≤ 16 := by rw [e_20]; exact h_17 _ (q_inlt b_18)
    refine lv_goto (tgt := 18) hx hb dX3_pointsOf_14 (by decide) ?_
    exact ty_iret hx hb hr hlk hG hS (by omega) dX3_pointsOf_18
  · skip
    refine lv_if_eq (tgt := 17) hx hb dX3_pointsOf_5 (by decide) (fun _ => ?_) (fun q => absurd (by decide) q)
    refine lv_iconst (v := 1) hx hb dX3_pointsOf_17 (by decide) ?_
    exact ty_iret hx hb hr hlk hG hS (by decide) dX3_pointsOf_18

def uX3_points : List Cond := .code yX3_points cX3_points 1 (some .int) :: ([.methodLink RX3 40 yX3_pointsOf, .instanceMethod yX3_pointsOf, .selects RX3 yX3_pointsOf yX3_pointsOf, .initialized RX3, .code yX3_pointsOf cX3_pointsOf 2 (some .int), .methodLink RX3 37 yX3_isSet, .instanceMethod yX3_isSet, .selects RX3 yX3_isSet yX3_isSet, .fieldLink RX3 24 "RiverModel$Knobs" "manys" "[I", .code yX3_isSet cX3_isSet 2 (some .boolean)] ++ wsX30)
set_option maxRecDepth 20000 in
theorem gu_X3_points_X3_pointsOf_40 : GoodIn uX3_points (wsV RX3 40 RX3 yX3_pointsOf uX3_pointsOf) := goodIn_r _ [1, 2, 3, 4, 5, 6, 7, 8, 4, 9, 10, 11, 12, 13, 14, 15] rfl (by decide +kernel)
set_option maxHeartbeats 4000000 in
set_option maxRecDepth 100000 in
theorem s_X3_points (l : Launch) (D : va_G) (t : Nat → Nat) (cI cL cC : ClassId) (gC : Int32) (gE : Int32) (G : Nat) (gW : Nat → Int32) (gA : Nat → Int32) (a0 : Nat) (k_a0 : t a0 = 7) : tM l yX3_points uX3_points 2 42 D (gF cI cL cC gC gE G gW gA) (gF cI cL cC gC gE G gW gA) t cI cL cC [.ref a0] wr0 (pI (fun r => 0 ≤ r.toInt ∧ r.toInt ≤ 256)) := by
  refine tM.ofW (cc := cX3_points) (maxL := 1) (ret := (some .int)) (by decide) rfl (Nat.le_of_ble_eq_true rfl) ?_
  intro p e s m below meth c hx hb hr hml hown hts hlk H locs hG hK hE hS ls hl
  have hl : lv_has ls 1 [(0, .ref a0)] := hl
  skip
  refine lv_aload_n hx hb dX3_points_0 rfl (lv_at hl 0 rfl) ?_
  refine lv_iconst (v := 0) hx hb dX3_points_1 (by decide) ?_
  obtain ⟨r_1, r_3, r_5, r_7, r_9, at_11, h_2, h_4, h_6, h_8, h_10⟩ := gF_o7 hG k_a0
  refine ty_calli ((W.runV (As := [.int 0]) (rest := []) ⟨hx, hb, hml, hown, hts⟩ (s_X3_pointsOf l D t cI cL cC gC gE G gW gA a0 0 k_a0) (cwV 1 hts gu_X3_points_X3_pointsOf_40 rfl rfl rfl (by decide +kernel) ⟨Nat.le_of_ble_eq_true rfl, Nat.le_of_ble_eq_true rfl⟩) (tP_V hG hE at_11 rfl) rfl rfl hl.1 rfl (lv_room (Nat.le_of_ble_eq_true rfl)) dX3_points_2 ⟨Nat.le_of_ble_eq_true rfl, Nat.le_of_ble_eq_true rfl⟩)) hS (fun _ h => h) (fun r_12 H locs hp_13 hG hS o_14 => ?_)
  have at_11 := va_at.keptC at_11 o_14 k_a0 rfl
  have hp_13 := hp_13
  refine lv_aload_n hx hb dX3_points_5 rfl (lv_at hl 0 rfl) ?_
  refine lv_iconst (v := 1) hx hb dX3_points_6 (by decide) ?_
  refine ty_calli ((W.runV (As := [.int 1]) (rest := [.int r_12]) ⟨hx, hb, hml, hown, hts⟩ (s_X3_pointsOf l D t cI cL cC gC gE G gW gA a0 1 k_a0) (cwV 1 hts gu_X3_points_X3_pointsOf_40 rfl rfl rfl (by decide +kernel) ⟨Nat.le_of_ble_eq_true rfl, Nat.le_of_ble_eq_true rfl⟩) (tP_V hG hE at_11 rfl) rfl rfl hl.1 rfl (lv_room (Nat.le_of_ble_eq_true rfl)) dX3_points_7 ⟨Nat.le_of_ble_eq_true rfl, Nat.le_of_ble_eq_true rfl⟩)) hS (fun _ h => h) (fun r_15 H locs hp_16 hG hS o_17 => ?_)
  have at_11 := va_at.keptC at_11 o_17 k_a0 rfl
  have hp_16 := hp_16
  refine lv_imul hx hb dX3_points_10 ?_
  refine lv_topi (fun x_18 e_19 => ?_)
  have i_x_18 : 0 ≤ x_18.toInt ∧ x_18.toInt ≤ 256 := by rw [e_19]; exact q_mul16 (by omega) (by omega) (by omega) (by omega)
  refine lv_pc (pc2 := 11) rfl ?_
  exact ty_iret hx hb hr hlk hG hS (by omega) dX3_points_11

def uX8_rainAhead : List Cond := .code yX8_rainAhead cX8_rainAhead 3 (some .int) :: ([.initialized RX9, .static yX9_isNoWorld, .static yX9_isOutside, .fieldLink RX8 18 "RiverModel$Worlds" "rains" "[I", .code yX9_isNoWorld cX9_isNoWorld 1 (some .boolean), .code yX9_isOutside cX9_isOutside 3 (some .boolean)] ++ wsX80)
set_option maxRecDepth 20000 in
theorem gu_X8_rainAhead_X9_isNoWorld_n : GoodIn uX8_rainAhead (uX9_isNoWorld) := goodIn_r _ [5] rfl (by decide +kernel)
set_option maxRecDepth 20000 in
theorem gu_X8_rainAhead_X9_isOutside_n : GoodIn uX8_rainAhead (uX9_isOutside) := goodIn_r _ [6] rfl (by decide +kernel)
set_option maxHeartbeats 4000000 in
set_option maxRecDepth 100000 in
theorem s_X8_rainAhead (l : Launch) (D : va_G) (t : Nat → Nat) (cI cL cC : ClassId) (gC : Int32) (gE : Int32) (G : Nat) (gW : Nat → Int32) (gA : Nat → Int32) (a0 : Nat) (a1 : Int32) (a2 : Int32) (k_a0 : t a0 = 8) : tM l yX8_rainAhead uX8_rainAhead 1 22 D (gF cI cL cC gC gE G gW gA) (gF cI cL cC gC gE G gW gA) t cI cL cC [.ref a0, .int a1, .int a2] wr0 (pI (fun r => True)) := by
  refine tM.ofW (cc := cX8_rainAhead) (maxL := 3) (ret := (some .int)) (by decide) rfl (Nat.le_of_ble_eq_true rfl) ?_
  intro p e s m below meth c hx hb hr hml hown hts hlk H locs hG hK hE hS ls hl
  have hl : lv_has ls 3 [(0, .ref a0), (1, .int a1), (2, .int a2)] := hl
  have in8 : ∀ w ∈ wsX80, w ∈ uX8_rainAhead := fun w h => List.mem_cons_of_mem _ (List.mem_append_right _ h)
  refine lv_iload_n hx hb dX8_rainAhead_0 rfl (lv_at hl 1 rfl) ?_
  refine ty_calli (tRun (va_runSN (As := [.int a1]) (rest := []) ⟨hx, hb, hml, hown, hts⟩ (s_X9_isNoWorld l D t cI cL cC gC gE G gW gA a1 ) ⟨(va_cnB 1 hts gu_X8_rainAhead_X9_isNoWorld_n rfl rfl rfl (hE.2.1 _ (List.mem_of_getElem? (i := 20) rfl)) (hts (.initialized RX9) (List.mem_of_getElem? (i := 1) rfl)) (by decide +kernel) ⟨Nat.le_of_ble_eq_true rfl, Nat.le_of_ble_eq_true rfl⟩), (hts (.static yX9_isNoWorld) (List.mem_of_getElem? (i := 2) rfl)), trivial⟩ (tP_S hG hE) rfl rfl hl.1 rfl (lv_room (Nat.le_of_ble_eq_true rfl)) dX8_rainAhead_1 ⟨Nat.le_of_ble_eq_true rfl, Nat.le_of_ble_eq_true rfl⟩)) hS (fun _ h => h) (fun r_1 H locs hp_2 hG hS o_3 => ?_)
  rcases hp_2 with ⟨rfl, hc_97⟩ | ⟨rfl, hc_98, hc_99⟩
  · skip
    refine lv_if_ne (tgt := 17) hx hb dX8_rainAhead_4 (by decide) (fun _ => ?_) (fun q => absurd q (by decide))
    refine lv_iconst (v := 0) hx hb dX8_rainAhead_17 (by decide) ?_
    refine lv_goto (tgt := 32) hx hb dX8_rainAhead_18 (by decide) ?_
    exact ty_iret hx hb hr hlk hG hS True.intro dX8_rainAhead_32
  · skip
    refine lv_if_ne (tgt := 17) hx hb dX8_rainAhead_4 (by decide) (fun q => absurd rfl q) (fun _ => ?_)
    refine lv_pc (pc2 := 7) rfl ?_
    refine lv_iload_n hx hb dX8_rainAhead_7 rfl (lv_at hl 2 rfl) ?_
    refine lv_iconst (v := 0) hx hb dX8_rainAhead_8 (by decide) ?_
    refine lv_bipush (v := 23) hx hb dX8_rainAhead_9 (by decide) ?_
    refine ty_calli (tRun (va_runSN (As := [.int a2, .int 0, .int 23]) (rest := []) ⟨hx, hb, hml, hown, hts⟩ (s_X9_isOutside l D t cI cL cC gC gE G gW gA a2 0 23 0 23 (by decide) (by decide) ) ⟨(va_cnB 3 hts gu_X8_rainAhead_X9_isOutside_n rfl rfl rfl (hE.2.1 _ (List.mem_of_getElem? (i := 21) rfl)) (hts (.initialized RX9) (List.mem_of_getElem? (i := 1) rfl)) (by decide +kernel) ⟨Nat.le_of_ble_eq_true rfl, Nat.le_of_ble_eq_true rfl⟩), (hts (.static yX9_isOutside) (List.mem_of_getElem? (i := 3) rfl)), trivial⟩ (tP_S hG hE) rfl rfl hl.1 rfl (lv_room (Nat.le_of_ble_eq_true rfl)) dX8_rainAhead_11 ⟨Nat.le_of_ble_eq_true rfl, Nat.le_of_ble_eq_true rfl⟩)) hS (fun _ h => h) (fun r_4 H locs hp_5 hG hS o_6 => ?_)
    rcases hp_5 with ⟨rfl, hc_100⟩ | ⟨rfl, hc_101, hc_102⟩
    · skip
      refine lv_if_eq (tgt := 21) hx hb dX8_rainAhead_14 (by decide) (fun q => absurd q (by decide)) (fun _ => ?_)
      refine lv_iconst (v := 0) hx hb dX8_rainAhead_17 (by decide) ?_
      refine lv_goto (tgt := 32) hx hb dX8_rainAhead_18 (by decide) ?_
      exact ty_iret hx hb hr hlk hG hS True.intro dX8_rainAhead_32
    · skip
      refine lv_pc (pc2 := 14) rfl ?_
      refine lv_if_eq (tgt := 21) hx hb dX8_rainAhead_14 (by decide) (fun _ => ?_) (fun q => absurd (by decide) q)
      refine lv_aload_n hx hb dX8_rainAhead_21 rfl (lv_at hl 0 rfl) ?_
      obtain ⟨r_7, r_9, r_11, at_13, h_8, h_10, h_12⟩ := gF_o8 hG k_a0
      refine va_get (D := D) (ci := 7) (v := .ref r_11) (C := RX8) (T := TX8) (N := 3) hx hb hts in8 hown hK (va_one at_13) 0 rfl rfl 2 (by decide) (hts (.fieldLink RX8 18 "RiverModel$Worlds" "rains" "[I") (List.mem_of_getElem? (i := 4) rfl)) (fun _ h9 => h9) rfl dX8_rainAhead_22 ?_
      refine lv_iload_n hx hb dX8_rainAhead_25 rfl (lv_at hl 1 rfl) ?_
      refine lv_bipush (v := 24) hx hb dX8_rainAhead_26 (by decide) ?_
      refine lv_imul hx hb dX8_rainAhead_28 ?_
      refine lv_topi (fun x_14 e_15 => ?_)
      have i_x_14 : x_14.toInt = a1.toInt * 24 := by rw [e_15]; exact (q_mul (by rw [show (24 : Int32).toInt = 24 by decide]; omega) (by rw [show (24 : Int32).toInt = 24 by decide]; omega)).trans (by rw [show (24 : Int32).toInt = 24 by decide])
      refine lv_iload_n hx hb dX8_rainAhead_29 rfl (lv_at hl 2 rfl) ?_
      refine lv_iadd hx hb dX8_rainAhead_30 ?_
      refine lv_topi (fun x_16 e_17 => ?_)
      have i_x_16 : x_16.toInt = x_14.toInt + a2.toInt := by rw [e_17]; exact (q_add (by omega) (by omega)).trans (by rfl)
      refine lv_pc (pc2 := 31) rfl ?_
      obtain ⟨f_18, at_19, h_20⟩ := gF_o31 hG h_12
      have b_21 : vp_in x_16 96 := (q_in (by omega) (by omega))
      refine va_iald hx hb hK (va_one at_19) 0 0 rfl rfl b_21 dX8_rainAhead_31 ?_
      refine lv_topi (fun x_22 e_23 => ?_)
      exact ty_iret hx hb hr hlk hG hS True.intro dX8_rainAhead_32

def uX8_weightOfAll : List Cond := .code yX8_weightOfAll cX8_weightOfAll 3 (some .int) :: ([.fieldLink RX8 9 "RiverModel$Worlds" "weights" "[I"] ++ wsX80)
set_option maxHeartbeats 4000000 in
set_option maxRecDepth 100000 in
theorem s_X8_weightOfAll (l : Launch) (D : va_G) (t : Nat → Nat) (cI cL cC : ClassId) (gC : Int32) (gE : Int32) (G : Nat) (gW : Nat → Int32) (gA : Nat → Int32) (a0 : Nat) (k_a0 : t a0 = 8) : tM l yX8_weightOfAll uX8_weightOfAll 0 0 D (gF cI cL cC gC gE G gW gA) (gF cI cL cC gC gE G gW gA) t cI cL cC [.ref a0] wr0 (pI (fun r => True)) := by
  refine tM.ofW (cc := cX8_weightOfAll) (maxL := 3) (ret := (some .int)) (by decide) rfl (Nat.le_of_ble_eq_true rfl) ?_
  intro p e s m below meth c hx hb hr hml hown hts hlk H locs hG hK hE hS ls hl
  have hl : lv_has ls 3 [(0, .ref a0)] := hl
  have in8 : ∀ w ∈ wsX80, w ∈ uX8_weightOfAll := fun w h => List.mem_cons_of_mem _ (List.mem_append_right _ h)
  refine lv_iconst (v := 0) hx hb dX8_weightOfAll_0 (by decide) ?_
  refine lv_istore_n (lv' := [(1, .int 0), (0, .ref a0)]) hx hb dX8_weightOfAll_1 rfl hl (by decide) rfl (fun ls hl => ?_)
  refine lv_iconst (v := 0) hx hb dX8_weightOfAll_2 (by decide) ?_
  refine lv_istore_n (lv' := [(2, .int 0), (1, .int 0), (0, .ref a0)]) hx hb dX8_weightOfAll_3 rfl hl (by decide) rfl (fun ls hl => ?_)
  refine lv_pc (pc2 := 4) rfl ?_
  refine lp_gen (fun WW hWW => ?_)
  have kx : ∀ (yk : Int32) (ys : Int32) (H1 : Heap) (locs1 : List Loc) (ls1 : Array Slot), 0 ≤ yk.toInt → yk.toInt ≤ 4 → tG D (gF cI cL cC gC gE G gW gA) t H1 → tF t wr0 s.heap H1 locs1 → lv_has ls1 3 [(2, .int yk), (1, .int ys), (0, .ref a0)] → WW H1 locs1 (F0 m 24 ls1 []) := by
    intro yk ys H locs ls v0 v1 hG hS hl
    refine (hWW _ _ _).mpr ?_
    refine lv_iload_n hx hb dX8_weightOfAll_24 rfl (lv_at hl 1 rfl) ?_
    exact ty_iret hx hb hr hlk hG hS True.intro dX8_weightOfAll_25
  have loop : ∀ (k : Nat) (yk : Int32) (ys : Int32) (H1 : Heap) (locs1 : List Loc) (ls1 : Array Slot), 4 - yk.toInt ≤ (k : Int) → 0 ≤ yk.toInt → yk.toInt ≤ 4 → tG D (gF cI cL cC gC gE G gW gA) t H1 → tF t wr0 s.heap H1 locs1 → lv_has ls1 3 [(2, .int yk), (1, .int ys), (0, .ref a0)] → WW H1 locs1 (F0 m 4 ls1 []) := by
    intro k
    induction k with
    | zero =>
      intro yk ys H locs ls hk v0 v1 hG hS hl
      refine (hWW _ _ _).mpr ?_
      refine lv_iload_n hx hb dX8_weightOfAll_4 rfl (lv_at hl 0 rfl) ?_
      refine lv_pc (pc2 := 5) rfl ?_
      refine lv_iconst (v := 4) hx hb dX8_weightOfAll_5 (by decide) ?_
      refine lv_icmp_ge (tgt := 24) hx hb dX8_weightOfAll_6 (by decide) (fun c_1 => ?_) (fun c_1 => ?_)
      · skip
        have c_1 : 4 ≤ yk.toInt := q_le c_1
        exact (hWW _ _ _).mp (kx yk ys H locs ls (by omega) (by omega) hG hS (lv_sub hl [0, 1, 2] rfl))
      · skip
        have c_1 : yk.toInt < 4 := q_nle c_1
        refine lv_iload_n hx hb dX8_weightOfAll_9 rfl (lv_at hl 1 rfl) ?_
        refine lv_aload_n hx hb dX8_weightOfAll_10 rfl (lv_at hl 2 rfl) ?_
        obtain ⟨r_2, r_4, r_6, at_8, h_3, h_5, h_7⟩ := gF_o8 hG k_a0
        refine va_get (D := D) (ci := 7) (v := .ref r_2) (C := RX8) (T := TX8) (N := 3) hx hb hts in8 hown hK (va_one at_8) 0 rfl rfl 0 (by decide) (hts (.fieldLink RX8 9 "RiverModel$Worlds" "weights" "[I") (List.mem_of_getElem? (i := 1) rfl)) (fun _ h9 => h9) rfl dX8_weightOfAll_11 ?_
        refine lv_iload_n hx hb dX8_weightOfAll_14 rfl (lv_at hl 0 rfl) ?_
        obtain ⟨f_9, at_10, h_11⟩ := gF_o29 hG h_3
        have b_12 : vp_in yk 4 := (q_in (by omega) (by omega))
        refine va_iald hx hb hK (va_one at_10) 0 0 rfl rfl b_12 dX8_weightOfAll_15 ?_
        refine lv_topi (fun x_13 e_14 => ?_)
        refine lv_iadd hx hb dX8_weightOfAll_16 ?_
        refine lv_topi (fun x_15 e_16 => ?_)
        refine lv_pc (pc2 := 17) rfl ?_
        refine lv_istore_n (lv' := [(1, .int x_15), (2, .int yk), (0, .ref a0)]) hx hb dX8_weightOfAll_17 rfl hl (by decide) rfl (fun ls hl => ?_)
        obtain ⟨x_17, e_18⟩ : ∃ y : Int32, y = yk + Int32.ofInt 1 := ⟨_, rfl⟩
        have i_x_17 : x_17.toInt = yk.toInt + 1 := by rw [e_18, show Int32.ofInt 1 = 1 by decide]; exact (q_add (by rw [show (1 : Int32).toInt = 1 by decide]; omega) (by rw [show (1 : Int32).toInt = 1 by decide]; omega)).trans (by rw [show (1 : Int32).toInt = 1 by decide])
        refine lv_iinc (v := x_17) (lv' := [(2, .int x_17), (1, .int x_15), (0, .ref a0)]) hx hb dX8_weightOfAll_18 hl (k := 1) rfl e_18.symm (by decide) rfl (fun ls hl => ?_)
        refine lv_goto (tgt := 4) hx hb dX8_weightOfAll_21 (by decide) ?_
        exfalso; omega
    | succ k ih =>
      intro yk ys H locs ls hk v0 v1 hG hS hl
      refine (hWW _ _ _).mpr ?_
      refine lv_iload_n hx hb dX8_weightOfAll_4 rfl (lv_at hl 0 rfl) ?_
      refine lv_iconst (v := 4) hx hb dX8_weightOfAll_5 (by decide) ?_
      refine lv_icmp_ge (tgt := 24) hx hb dX8_weightOfAll_6 (by decide) (fun c_19 => ?_) (fun c_19 => ?_)
      · skip
        have c_19 : 4 ≤ yk.toInt := q_le c_19
        exact (hWW _ _ _).mp (kx yk ys H locs ls (by omega) (by omega) hG hS (lv_sub hl [0, 1, 2] rfl))
      · skip
        have c_19 : yk.toInt < 4 := q_nle c_19
        refine lv_iload_n hx hb dX8_weightOfAll_9 rfl (lv_at hl 1 rfl) ?_
        refine lv_aload_n hx hb dX8_weightOfAll_10 rfl (lv_at hl 2 rfl) ?_
        refine lv_pc (pc2 := 11) rfl ?_
        obtain ⟨r_20, r_22, r_24, at_26, h_21, h_23, h_25⟩ := gF_o8 hG k_a0
        refine va_get (D := D) (ci := 7) (v := .ref r_20) (C := RX8) (T := TX8) (N := 3) hx hb hts in8 hown hK (va_one at_26) 0 rfl rfl 0 (by decide) (hts (.fieldLink RX8 9 "RiverModel$Worlds" "weights" "[I") (List.mem_of_getElem? (i := 1) rfl)) (fun _ h9 => h9) rfl dX8_weightOfAll_11 ?_
        refine lv_iload_n hx hb dX8_weightOfAll_14 rfl (lv_at hl 0 rfl) ?_
        obtain ⟨f_27, at_28, h_29⟩ := gF_o29 hG h_21
        have b_30 : vp_in yk 4 := (q_in (by omega) (by omega))
        refine va_iald hx hb hK (va_one at_28) 0 0 rfl rfl b_30 dX8_weightOfAll_15 ?_
        refine lv_topi (fun x_31 e_32 => ?_)
        refine lv_iadd hx hb dX8_weightOfAll_16 ?_
        refine lv_topi (fun x_33 e_34 => ?_)
        refine lv_istore_n (lv' := [(1, .int x_33), (2, .int yk), (0, .ref a0)]) hx hb dX8_weightOfAll_17 rfl hl (by decide) rfl (fun ls hl => ?_)
        obtain ⟨x_35, e_36⟩ : ∃ y : Int32, y = yk + Int32.ofInt 1 := ⟨_, rfl⟩
        have i_x_35 : x_35.toInt = yk.toInt + 1 := by rw [e_36, show Int32.ofInt 1 = 1 by decide]; exact (q_add (by rw [show (1 : Int32).toInt = 1 by decide]; omega) (by rw [show (1 : Int32).toInt = 1 by decide]; omega)).trans (by rw [show (1 : Int32).toInt = 1 by decide])
        refine lv_iinc (v := x_35) (lv' := [(2, .int x_35), (1, .int x_33), (0, .ref a0)]) hx hb dX8_weightOfAll_18 hl (k := 1) rfl e_36.symm (by decide) rfl (fun ls hl => ?_)
        refine lv_goto (tgt := 4) hx hb dX8_weightOfAll_21 (by decide) ?_
        exact (hWW _ _ _).mp (ih x_35 x_33 H locs ls (by omega) (by omega) (by omega) hG hS (lv_sub hl [0, 1, 2] rfl))
  have hz_yk : (0 : Int32).toInt = 0 := by decide
  have hz_ys : (0 : Int32).toInt = 0 := by decide
  exact loop (4 - 0 : Int).toNat 0 0 H locs ls (by omega) (by omega) (by omega) hG hS (lv_sub hl [0, 1, 2] rfl)

def uX8_enter : List Cond := .code yX8_enter cX8_enter 3 none :: ([.fieldLink RX8 15 "RiverModel$Worlds" "warnings" "[I"] ++ wsX80)
set_option maxHeartbeats 4000000 in
set_option maxRecDepth 100000 in
theorem s_X8_enter (l : Launch) (D : va_G) (t : Nat → Nat) (cI cL cC : ClassId) (gC : Int32) (gE : Int32) (G : Nat) (gW : Nat → Int32) (gA : Nat → Int32) (a0 : Nat) (a1 : Int32) (a2 : Int32) (k_a0 : t a0 = 8) : tM l yX8_enter uX8_enter 0 0 D (gF cI cL cC gC gE G gW gA) (gF cI cL cC gC gE G gW gA) t cI cL cC [.ref a0, .int a1, .int a2] wrBk (pV (True)) := by
  refine tM.ofW (cc := cX8_enter) (maxL := 3) (ret := none) (by decide) rfl (Nat.le_of_ble_eq_true rfl) ?_
  intro p e s m below meth c hx hb hr hml hown hts hlk H locs hG hK hE hS ls hl
  have hl : lv_has ls 3 [(0, .ref a0), (1, .int a1), (2, .int a2)] := hl
  have in8 : ∀ w ∈ wsX80, w ∈ uX8_enter := fun w h => List.mem_cons_of_mem _ (List.mem_append_right _ h)
  refine lv_iload_n hx hb dX8_enter_0 rfl (lv_at hl 1 rfl) ?_
  refine lv_if_eq (tgt := 25) hx hb dX8_enter_1 (by decide) (fun c_1 => ?_) (fun c_1 => ?_)
  · skip
    have c_1 : a1.toInt = 0 := q_eq c_1
    refine lv_aload_n hx hb dX8_enter_25 rfl (lv_at hl 0 rfl) ?_
    obtain ⟨r_2, r_4, r_6, at_8, h_3, h_5, h_7⟩ := gF_o8 hG k_a0
    refine va_get (D := D) (ci := 7) (v := .ref r_4) (C := RX8) (T := TX8) (N := 3) hx hb hts in8 hown hK (va_one at_8) 0 rfl rfl 1 (by decide) (hts (.fieldLink RX8 15 "RiverModel$Worlds" "warnings" "[I") (List.mem_of_getElem? (i := 1) rfl)) (fun _ h9 => h9) rfl dX8_enter_26 ?_
    refine lv_iload_n hx hb dX8_enter_29 rfl (lv_at hl 2 rfl) ?_
    refine lv_if_eq (tgt := 37) hx hb dX8_enter_30 (by decide) (fun c_9 => ?_) (fun c_9 => ?_)
    · skip
      have c_9 : a2.toInt = 0 := q_eq c_9
      refine lv_iconst (v := 3) hx hb dX8_enter_37 (by decide) ?_
      refine lv_pc (pc2 := 38) rfl ?_
      refine lv_dup2_11 hx hb dX8_enter_38 rfl rfl ?_
      obtain ⟨f_10, at_11⟩ := gF_o30 hG h_5
      have b_12 : vp_in 3 4 := (q_in (by decide) (by decide))
      refine va_iald hx hb hK (va_one at_11) 0 0 rfl rfl b_12 dX8_enter_39 ?_
      refine lv_topi (fun x_13 e_14 => ?_)
      refine lv_iconst (v := 1) hx hb dX8_enter_40 (by decide) ?_
      refine lv_iadd hx hb dX8_enter_41 ?_
      refine lv_topi (fun x_15 e_16 => ?_)
      have b_17 : vp_in 3 4 := (q_in (by decide) (by decide))
      refine ty_iast (F2 := (gF cI cL cC gC gE G gW gA)) hx hb hK hG hS 0 at_11 (by rw [h_5]; rfl) rfl b_17 (by rw [h_5]; exact ⟨_, rfl⟩) tFF dX8_enter_42 (fun H locs hG hS at_18 o_19 => ?_)
      have at_8 := va_at.keptK at_8 o_19 h_5 k_a0 rfl
      exact ty_vret hx hb hr hlk hG hS True.intro dX8_enter_43
    · skip
      have c_9 : a2.toInt ≠ 0 := q_ne c_9
      refine lv_iconst (v := 2) hx hb dX8_enter_33 (by decide) ?_
      refine lv_goto (tgt := 38) hx hb dX8_enter_34 (by decide) ?_
      refine lv_pc (pc2 := 38) rfl ?_
      refine lv_dup2_11 hx hb dX8_enter_38 rfl rfl ?_
      obtain ⟨f_20, at_21⟩ := gF_o30 hG h_5
      have b_22 : vp_in 2 4 := (q_in (by decide) (by decide))
      refine va_iald hx hb hK (va_one at_21) 0 0 rfl rfl b_22 dX8_enter_39 ?_
      refine lv_topi (fun x_23 e_24 => ?_)
      refine lv_iconst (v := 1) hx hb dX8_enter_40 (by decide) ?_
      refine lv_iadd hx hb dX8_enter_41 ?_
      refine lv_topi (fun x_25 e_26 => ?_)
      have b_27 : vp_in 2 4 := (q_in (by decide) (by decide))
      refine ty_iast (F2 := (gF cI cL cC gC gE G gW gA)) hx hb hK hG hS 0 at_21 (by rw [h_5]; rfl) rfl b_27 (by rw [h_5]; exact ⟨_, rfl⟩) tFF dX8_enter_42 (fun H locs hG hS at_28 o_29 => ?_)
      have at_8 := va_at.keptK at_8 o_29 h_5 k_a0 rfl
      exact ty_vret hx hb hr hlk hG hS True.intro dX8_enter_43
  · skip
    have c_1 : a1.toInt ≠ 0 := q_ne c_1
    refine lv_aload_n hx hb dX8_enter_4 rfl (lv_at hl 0 rfl) ?_
    obtain ⟨r_30, r_32, r_34, at_36, h_31, h_33, h_35⟩ := gF_o8 hG k_a0
    refine va_get (D := D) (ci := 7) (v := .ref r_32) (C := RX8) (T := TX8) (N := 3) hx hb hts in8 hown hK (va_one at_36) 0 rfl rfl 1 (by decide) (hts (.fieldLink RX8 15 "RiverModel$Worlds" "warnings" "[I") (List.mem_of_getElem? (i := 1) rfl)) (fun _ h9 => h9) rfl dX8_enter_5 ?_
    refine lv_pc (pc2 := 8) rfl ?_
    refine lv_iload_n hx hb dX8_enter_8 rfl (lv_at hl 2 rfl) ?_
    refine lv_if_eq (tgt := 16) hx hb dX8_enter_9 (by decide) (fun c_37 => ?_) (fun c_37 => ?_)
    · skip
      have c_37 : a2.toInt = 0 := q_eq c_37
      refine lv_iconst (v := 1) hx hb dX8_enter_16 (by decide) ?_
      refine lv_dup2_11 hx hb dX8_enter_17 rfl rfl ?_
      obtain ⟨f_38, at_39⟩ := gF_o30 hG h_33
      have b_40 : vp_in 1 4 := (q_in (by decide) (by decide))
      refine va_iald hx hb hK (va_one at_39) 0 0 rfl rfl b_40 dX8_enter_18 ?_
      refine lv_topi (fun x_41 e_42 => ?_)
      refine lv_iconst (v := 1) hx hb dX8_enter_19 (by decide) ?_
      refine lv_iadd hx hb dX8_enter_20 ?_
      refine lv_topi (fun x_43 e_44 => ?_)
      have b_45 : vp_in 1 4 := (q_in (by decide) (by decide))
      refine ty_iast (F2 := (gF cI cL cC gC gE G gW gA)) hx hb hK hG hS 0 at_39 (by rw [h_33]; rfl) rfl b_45 (by rw [h_33]; exact ⟨_, rfl⟩) tFF dX8_enter_21 (fun H locs hG hS at_46 o_47 => ?_)
      have at_36 := va_at.keptK at_36 o_47 h_33 k_a0 rfl
      refine lv_pc (pc2 := 22) rfl ?_
      refine lv_goto (tgt := 43) hx hb dX8_enter_22 (by decide) ?_
      exact ty_vret hx hb hr hlk hG hS True.intro dX8_enter_43
    · skip
      have c_37 : a2.toInt ≠ 0 := q_ne c_37
      refine lv_iconst (v := 0) hx hb dX8_enter_12 (by decide) ?_
      refine lv_goto (tgt := 17) hx hb dX8_enter_13 (by decide) ?_
      refine lv_dup2_11 hx hb dX8_enter_17 rfl rfl ?_
      obtain ⟨f_48, at_49⟩ := gF_o30 hG h_33
      have b_50 : vp_in 0 4 := (q_in (by decide) (by decide))
      refine va_iald hx hb hK (va_one at_49) 0 0 rfl rfl b_50 dX8_enter_18 ?_
      refine lv_topi (fun x_51 e_52 => ?_)
      refine lv_iconst (v := 1) hx hb dX8_enter_19 (by decide) ?_
      refine lv_iadd hx hb dX8_enter_20 ?_
      refine lv_topi (fun x_53 e_54 => ?_)
      refine lv_pc (pc2 := 21) rfl ?_
      have b_55 : vp_in 0 4 := (q_in (by decide) (by decide))
      refine ty_iast (F2 := (gF cI cL cC gC gE G gW gA)) hx hb hK hG hS 0 at_49 (by rw [h_33]; rfl) rfl b_55 (by rw [h_33]; exact ⟨_, rfl⟩) tFF dX8_enter_21 (fun H locs hG hS at_56 o_57 => ?_)
      have at_36 := va_at.keptK at_36 o_57 h_33 k_a0 rfl
      refine lv_goto (tgt := 43) hx hb dX8_enter_22 (by decide) ?_
      exact ty_vret hx hb hr hlk hG hS True.intro dX8_enter_43

def uX5_prepare : List Cond := .code yX5_prepare cX5_prepare 7 none :: ([.fieldLink RX5 32 "RiverModel$Search" "gate" "I", .fieldLink RX5 36 "RiverModel$Search" "blockHours" "I", .fieldLink RX5 39 "RiverModel$Search" "gauge" "I", .fieldLink RX5 42 "RiverModel$Search" "store" "I", .fieldLink RX5 45 "RiverModel$Search" "limit" "J", .fieldLink RX5 24 "RiverModel$Search" "isFound" "Z"] ++ wsX50)
set_option maxHeartbeats 4000000 in
set_option maxRecDepth 100000 in
theorem s_X5_prepare (l : Launch) (D : va_G) (t : Nat → Nat) (cI cL cC : ClassId) (gC : Int32) (gE : Int32) (G : Nat) (gW : Nat → Int32) (gA : Nat → Int32) (a0 : Nat) (a1 : Int32) (a2 : Int32) (a3 : Int32) (a4 : Int32) (a5 : Int64) (h1b : 0 ≤ a2.toInt) (h6b : a2.toInt ≤ 6) (h0g : 0 ≤ a1.toInt) (h3g : a1.toInt ≤ 3) (h0s : 0 ≤ a4.toInt) (h15s : a4.toInt ≤ 15) (k_a0 : t a0 = 9) : tM l yX5_prepare uX5_prepare 0 0 D (gF cI cL cC gC gE G gW gA) (gF cI cL cC gC gE G gW gA) t cI cL cC [.ref a0, .int a1, .int a2, .int a3, .int a4, .long a5] wrS (pV (True)) := by
  refine tM.ofW (cc := cX5_prepare) (maxL := 7) (ret := none) (by decide) rfl (Nat.le_of_ble_eq_true rfl) ?_
  intro p e s m below meth c hx hb hr hml hown hts hlk H locs hG hK hE hS ls hl
  have hl : lv_has ls 7 [(0, .ref a0), (1, .int a1), (2, .int a2), (3, .int a3), (4, .int a4), (5, .long a5)] := hl
  have in5 : ∀ w ∈ wsX50, w ∈ uX5_prepare := fun w h => List.mem_cons_of_mem _ (List.mem_append_right _ h)
  refine lv_aload_n hx hb dX5_prepare_0 rfl (lv_at hl 0 rfl) ?_
  refine lv_iload_n hx hb dX5_prepare_1 rfl (lv_at hl 1 rfl) ?_
  obtain ⟨r_1, r_3, r_5, v_7, v_8, v_9, v_11, v_13, v_14, v_16, at_17, h_2, h_4, h_6, h_10, h_12, h_15⟩ := gF_o9 hG k_a0
  refine ty_put (D := D) (ci := 4) (v := .int a1) (ty := .int) (C := RX5) (T := TX5) (N := 10) (F2 := (gF cI cL cC gC gE G gW gA)) hx hb hts in5 tyX5 tyX5_ok nmX5 hown hK hG hS at_17 (by rw [k_a0]; rfl) rfl 5 (by decide) (hts (.fieldLink RX5 32 "RiverModel$Search" "gate" "I") (List.mem_of_getElem? (i := 1) rfl)) (fun _ h9 => h9) rfl (by decide +kernel) rfl rfl (Nat.le_of_ble_eq_true rfl) (by rw [k_a0]; exact ⟨r_1, r_3, r_5, v_7, v_8, a1, v_11, v_13, v_14, v_16, rfl, h_2, h_4, h_6, (by omega), (by omega), (by omega)⟩) tFF dX5_prepare_2 (fun H locs hG hS at_18 o_19 => ?_)
  have at_18 : va_at D vwCl (a0, .inr (4, [.ref r_1, .ref r_3, .ref r_5, .int v_7, .long v_8, .int a1, .int v_11, .int v_13, .int v_14, .long v_16])) H := at_18
  refine lv_aload_n hx hb dX5_prepare_5 rfl (lv_at hl 0 rfl) ?_
  refine lv_iload_n hx hb dX5_prepare_6 rfl (lv_at hl 2 rfl) ?_
  refine ty_put (D := D) (ci := 4) (v := .int a2) (ty := .int) (C := RX5) (T := TX5) (N := 10) (F2 := (gF cI cL cC gC gE G gW gA)) hx hb hts in5 tyX5 tyX5_ok nmX5 hown hK hG hS at_18 (by rw [k_a0]; rfl) rfl 6 (by decide) (hts (.fieldLink RX5 36 "RiverModel$Search" "blockHours" "I") (List.mem_of_getElem? (i := 2) rfl)) (fun _ h9 => h9) rfl (by decide +kernel) rfl rfl (Nat.le_of_ble_eq_true rfl) (by rw [k_a0]; exact ⟨r_1, r_3, r_5, v_7, v_8, a1, a2, v_13, v_14, v_16, rfl, h_2, h_4, h_6, (by omega), (by omega), (by omega)⟩) tFF dX5_prepare_7 (fun H locs hG hS at_20 o_21 => ?_)
  have at_20 : va_at D vwCl (a0, .inr (4, [.ref r_1, .ref r_3, .ref r_5, .int v_7, .long v_8, .int a1, .int a2, .int v_13, .int v_14, .long v_16])) H := at_20
  refine lv_aload_n hx hb dX5_prepare_10 rfl (lv_at hl 0 rfl) ?_
  refine lv_pc (pc2 := 11) rfl ?_
  refine lv_iload_n hx hb dX5_prepare_11 rfl (lv_at hl 3 rfl) ?_
  refine ty_put (D := D) (ci := 4) (v := .int a3) (ty := .int) (C := RX5) (T := TX5) (N := 10) (F2 := (gF cI cL cC gC gE G gW gA)) hx hb hts in5 tyX5 tyX5_ok nmX5 hown hK hG hS at_20 (by rw [k_a0]; rfl) rfl 7 (by decide) (hts (.fieldLink RX5 39 "RiverModel$Search" "gauge" "I") (List.mem_of_getElem? (i := 3) rfl)) (fun _ h9 => h9) rfl (by decide +kernel) rfl rfl (Nat.le_of_ble_eq_true rfl) (by rw [k_a0]; exact ⟨r_1, r_3, r_5, v_7, v_8, a1, a2, a3, v_14, v_16, rfl, h_2, h_4, h_6, (by omega), (by omega), (by omega)⟩) tFF dX5_prepare_12 (fun H locs hG hS at_22 o_23 => ?_)
  have at_22 : va_at D vwCl (a0, .inr (4, [.ref r_1, .ref r_3, .ref r_5, .int v_7, .long v_8, .int a1, .int a2, .int a3, .int v_14, .long v_16])) H := at_22
  refine lv_aload_n hx hb dX5_prepare_15 rfl (lv_at hl 0 rfl) ?_
  refine lv_iload hx hb dX5_prepare_16 (lv_at hl 4 rfl) ?_
  refine ty_put (D := D) (ci := 4) (v := .int a4) (ty := .int) (C := RX5) (T := TX5) (N := 10) (F2 := (gF cI cL cC gC gE G gW gA)) hx hb hts in5 tyX5 tyX5_ok nmX5 hown hK hG hS at_22 (by rw [k_a0]; rfl) rfl 8 (by decide) (hts (.fieldLink RX5 42 "RiverModel$Search" "store" "I") (List.mem_of_getElem? (i := 4) rfl)) (fun _ h9 => h9) rfl (by decide +kernel) rfl rfl (Nat.le_of_ble_eq_true rfl) (by rw [k_a0]; exact ⟨r_1, r_3, r_5, v_7, v_8, a1, a2, a3, a4, v_16, rfl, h_2, h_4, h_6, (by omega), (by omega), (by omega)⟩) tFF dX5_prepare_18 (fun H locs hG hS at_24 o_25 => ?_)
  have at_24 : va_at D vwCl (a0, .inr (4, [.ref r_1, .ref r_3, .ref r_5, .int v_7, .long v_8, .int a1, .int a2, .int a3, .int a4, .long v_16])) H := at_24
  refine lv_aload_n hx hb dX5_prepare_21 rfl (lv_at hl 0 rfl) ?_
  refine lv_lload hx hb dX5_prepare_22 (lv_at hl 5 rfl) ?_
  refine ty_put (D := D) (ci := 4) (v := .long a5) (ty := .long) (C := RX5) (T := TX5) (N := 10) (F2 := (gF cI cL cC gC gE G gW gA)) hx hb hts in5 tyX5 tyX5_ok nmX5 hown hK hG hS at_24 (by rw [k_a0]; rfl) rfl 9 (by decide) (hts (.fieldLink RX5 45 "RiverModel$Search" "limit" "J") (List.mem_of_getElem? (i := 5) rfl)) (fun _ h9 => h9) rfl (by decide +kernel) rfl rfl (Nat.le_of_ble_eq_true rfl) (by rw [k_a0]; exact ⟨r_1, r_3, r_5, v_7, v_8, a1, a2, a3, a4, a5, rfl, h_2, h_4, h_6, (by omega), (by omega), (by omega)⟩) tFF dX5_prepare_24 (fun H locs hG hS at_26 o_27 => ?_)
  have at_26 : va_at D vwCl (a0, .inr (4, [.ref r_1, .ref r_3, .ref r_5, .int v_7, .long v_8, .int a1, .int a2, .int a3, .int a4, .long a5])) H := at_26
  refine lv_pc (pc2 := 27) rfl ?_
  refine lv_aload_n hx hb dX5_prepare_27 rfl (lv_at hl 0 rfl) ?_
  refine lv_iconst (v := 0) hx hb dX5_prepare_28 (by decide) ?_
  refine ty_put (D := D) (ci := 4) (v := .int 0) (ty := .boolean) (C := RX5) (T := TX5) (N := 10) (F2 := (gF cI cL cC gC gE G gW gA)) hx hb hts in5 tyX5 tyX5_ok nmX5 hown hK hG hS at_26 (by rw [k_a0]; rfl) rfl 3 (by decide) (hts (.fieldLink RX5 24 "RiverModel$Search" "isFound" "Z") (List.mem_of_getElem? (i := 6) rfl)) (fun _ h9 => h9) rfl (by decide +kernel) (by decide) (by decide) (Nat.le_of_ble_eq_true rfl) (by rw [k_a0]; exact ⟨r_1, r_3, r_5, 0, v_8, a1, a2, a3, a4, a5, rfl, h_2, h_4, h_6, (by omega), (by omega), (by omega)⟩) tFF dX5_prepare_29 (fun H locs hG hS at_28 o_29 => ?_)
  have at_28 : va_at D vwCl (a0, .inr (4, [.ref r_1, .ref r_3, .ref r_5, .int 0, .long v_8, .int a1, .int a2, .int a3, .int a4, .long a5])) H := at_28
  exact ty_vret hx hb hr hlk hG hS True.intro dX5_prepare_32

def uX5_takeTried : List Cond := .code yX5_takeTried cX5_takeTried 3 none :: ([.fieldLink RX5 24 "RiverModel$Search" "isFound" "Z", .fieldLink RX5 28 "RiverModel$Search" "leastPeak" "J", .fieldLink RX5 17 "RiverModel$Search" "tried" "[I", .fieldLink RX5 21 "RiverModel$Search" "found" "[I", .methodLink RX5 113 arraycopyName, .native arraycopyName, .static arraycopyName, .initialized "java/lang/System"] ++ wsX50)
set_option maxHeartbeats 4000000 in
set_option maxRecDepth 100000 in
theorem s_X5_takeTried (l : Launch) (D : va_G) (t : Nat → Nat) (cI cL cC : ClassId) (gC : Int32) (gE : Int32) (G : Nat) (gW : Nat → Int32) (gA : Nat → Int32) (a0 : Nat) (a1 : Int64) (k_a0 : t a0 = 9) : tM l yX5_takeTried uX5_takeTried 1 60 D (gF cI cL cC gC gE G gW gA) (gF cI cL cC gC gE G gW gA) t cI cL cC [.ref a0, .long a1] wrS (pV (True)) := by
  refine tM.ofW (cc := cX5_takeTried) (maxL := 3) (ret := none) (by decide) rfl (Nat.le_of_ble_eq_true rfl) ?_
  intro p e s m below meth c hx hb hr hml hown hts hlk H locs hG hK hE hS ls hl
  have hl : lv_has ls 3 [(0, .ref a0), (1, .long a1)] := hl
  have in5 : ∀ w ∈ wsX50, w ∈ uX5_takeTried := fun w h => List.mem_cons_of_mem _ (List.mem_append_right _ h)
  refine lv_aload_n hx hb dX5_takeTried_0 rfl (lv_at hl 0 rfl) ?_
  refine lv_iconst (v := 1) hx hb dX5_takeTried_1 (by decide) ?_
  obtain ⟨r_1, r_3, r_5, v_7, v_8, v_9, v_11, v_13, v_14, v_16, at_17, h_2, h_4, h_6, h_10, h_12, h_15⟩ := gF_o9 hG k_a0
  refine ty_put (D := D) (ci := 4) (v := .int 1) (ty := .boolean) (C := RX5) (T := TX5) (N := 10) (F2 := (gF cI cL cC gC gE G gW gA)) hx hb hts in5 tyX5 tyX5_ok nmX5 hown hK hG hS at_17 (by rw [k_a0]; rfl) rfl 3 (by decide) (hts (.fieldLink RX5 24 "RiverModel$Search" "isFound" "Z") (List.mem_of_getElem? (i := 1) rfl)) (fun _ h9 => h9) rfl (by decide +kernel) (by decide) (by decide) (Nat.le_of_ble_eq_true rfl) (by rw [k_a0]; exact ⟨r_1, r_3, r_5, 1, v_8, v_9, v_11, v_13, v_14, v_16, rfl, h_2, h_4, h_6, (by omega), (by omega), (by omega)⟩) tFF dX5_takeTried_2 (fun H locs hG hS at_18 o_19 => ?_)
  have at_18 : va_at D vwCl (a0, .inr (4, [.ref r_1, .ref r_3, .ref r_5, .int 1, .long v_8, .int v_9, .int v_11, .int v_13, .int v_14, .long v_16])) H := at_18
  refine lv_aload_n hx hb dX5_takeTried_5 rfl (lv_at hl 0 rfl) ?_
  refine lv_lload_n hx hb dX5_takeTried_6 rfl (lv_at hl 1 rfl) ?_
  refine ty_put (D := D) (ci := 4) (v := .long a1) (ty := .long) (C := RX5) (T := TX5) (N := 10) (F2 := (gF cI cL cC gC gE G gW gA)) hx hb hts in5 tyX5 tyX5_ok nmX5 hown hK hG hS at_18 (by rw [k_a0]; rfl) rfl 4 (by decide) (hts (.fieldLink RX5 28 "RiverModel$Search" "leastPeak" "J") (List.mem_of_getElem? (i := 2) rfl)) (fun _ h9 => h9) rfl (by decide +kernel) rfl rfl (Nat.le_of_ble_eq_true rfl) (by rw [k_a0]; exact ⟨r_1, r_3, r_5, 1, a1, v_9, v_11, v_13, v_14, v_16, rfl, h_2, h_4, h_6, (by omega), (by omega), (by omega)⟩) tFF dX5_takeTried_7 (fun H locs hG hS at_20 o_21 => ?_)
  have at_20 : va_at D vwCl (a0, .inr (4, [.ref r_1, .ref r_3, .ref r_5, .int 1, .long a1, .int v_9, .int v_11, .int v_13, .int v_14, .long v_16])) H := at_20
  refine lv_aload_n hx hb dX5_takeTried_10 rfl (lv_at hl 0 rfl) ?_
  refine lv_pc (pc2 := 11) rfl ?_
  refine va_get (D := D) (ci := 4) (v := .ref r_3) (C := RX5) (T := TX5) (N := 10) hx hb hts in5 hown hK (va_one at_20) 0 rfl rfl 1 (by decide) (hts (.fieldLink RX5 17 "RiverModel$Search" "tried" "[I") (List.mem_of_getElem? (i := 3) rfl)) (fun _ h9 => h9) rfl dX5_takeTried_11 ?_
  refine lv_iconst (v := 0) hx hb dX5_takeTried_14 (by decide) ?_
  refine lv_aload_n hx hb dX5_takeTried_15 rfl (lv_at hl 0 rfl) ?_
  refine va_get (D := D) (ci := 4) (v := .ref r_5) (C := RX5) (T := TX5) (N := 10) hx hb hts in5 hown hK (va_one at_20) 0 rfl rfl 2 (by decide) (hts (.fieldLink RX5 21 "RiverModel$Search" "found" "[I") (List.mem_of_getElem? (i := 4) rfl)) (fun _ h9 => h9) rfl dX5_takeTried_16 ?_
  refine lv_iconst (v := 0) hx hb dX5_takeTried_19 (by decide) ?_
  refine lv_iconst (v := 4) hx hb dX5_takeTried_20 (by decide) ?_
  obtain ⟨f_22, at_23⟩ := gF_o33 hG h_4
  obtain ⟨f_24, at_25⟩ := gF_o34 hG h_6
  refine ty_copyi hx hb (by rw [hml]; exact hl.1.symm) hown (hts (.methodLink RX5 113 arraycopyName) (List.mem_of_getElem? (i := 5) rfl)) (hts (.native arraycopyName) (List.mem_of_getElem? (i := 6) rfl)) (hts (.static arraycopyName) (List.mem_of_getElem? (i := 7) rfl)) (hts (.initialized "java/lang/System") (List.mem_of_getElem? (i := 8) rfl)) hK at_23 at_25 (by decide) (by decide) (by decide) (by decide) (by decide) (Nat.le_of_ble_eq_true rfl) (Nat.le_of_ble_eq_true rfl) dX5_takeTried_21 (fun H L at_26 hz_28 o_27 hL_29 => ?_)
  replace hG : tG D (gF cI cL cC gC gE G gW gA) t H := tG.set hG at_26 (by rw [h_6]; exact ⟨_, rfl⟩) o_27
  replace hS := tF.row hS hz_28 o_27 hL_29 (by rw [h_6]; rfl)
  generalize _ ++ L = locs at hS ⊢
  have at_20 := va_at.keptK at_20 o_27 h_6 k_a0 rfl
  have at_23 := va_at.keptK at_23 o_27 h_6 h_4 rfl
  exact ty_vret hx hb hr hlk hG hS True.intro dX5_takeTried_24

def uX5_peakOfBlock : List Cond := .code yX5_peakOfBlock cX5_peakOfBlock 11 (some .long) :: ([.fieldLink RX5 32 "RiverModel$Search" "gate" "I", .initialized RX9, .static yX9_isNoGate, .constantLong RX5 61 (-1), .fieldLink RX5 42 "RiverModel$Search" "store" "I", .static yX9_isNoStore, .fieldLink RX5 78 "RiverModel$Course" "openings" "[I", .fieldLink RX5 36 "RiverModel$Search" "blockHours" "I", .fieldLink RX5 81 "RiverModel$Course" "hours" "I", .methodLink RX5 84 yX6_rainIn, .instanceMethod yX6_rainIn, .selects RX6 yX6_rainIn yX6_rainIn, .initialized RX6, .methodLink RX5 90 yX6_tempIn, .instanceMethod yX6_tempIn, .selects RX6 yX6_tempIn yX6_tempIn, .methodLink RX5 93 yX0_goHour, .instanceMethod yX0_goHour, .selects RX0 yX0_goHour yX0_goHour, .initialized RX0, .fieldLink RX5 97 "RiverModel$Course" "held" "[J", .fieldLink RX5 45 "RiverModel$Search" "limit" "J", .fieldLink RX5 39 "RiverModel$Search" "gauge" "I", .methodLink RX5 101 yX1_reading, .instanceMethod yX1_reading, .selects RX1 yX1_reading yX1_reading, .initialized RX1, .methodLink RX5 107 Lib.MathLoose.max_long.x, .static Lib.MathLoose.max_long.x, .initialized "java/lang/Math", .code Lib.MathLoose.max_long.x Lib.MathLoose.max_long.code 4 (some .long), .code yX9_isNoGate cX9_isNoGate 1 (some .boolean), .code yX9_isNoStore cX9_isNoStore 1 (some .boolean), .code yX6_rainIn cX6_rainIn 2 (some .int), .static yX9_isOutside, .fieldLink RX6 9 "RiverModel$Sky" "rains" "[I", .code yX9_isOutside cX9_isOutside 3 (some .boolean), .code yX6_tempIn cX6_tempIn 2 (some .int), .fieldLink RX6 15 "RiverModel$Sky" "temps" "[I", .code yX0_goHour cX0_goHour 7 none, .methodLink RX0 72 yX0_bringDue, .instanceMethod yX0_bringDue, .selects RX0 yX0_bringDue yX0_bringDue, .fieldLink RX0 35 "RiverModel$Course" "hours" "I", .fieldLink RX0 75 "RiverModel$Model" "many" "I", .methodLink RX0 78 yX0_amountOf, .instanceMethod yX0_amountOf, .selects RX0 yX0_amountOf yX0_amountOf, .fieldLink RX0 15 "RiverModel$Course" "moved" "[J", .methodLink RX0 82 yX0_move, .instanceMethod yX0_move, .selects RX0 yX0_move yX0_move, .code yX0_bringDue cX0_bringDue 3 none, .fieldLink RX0 9 "RiverModel$Course" "held" "[J", .fieldLink RX0 22 "RiverModel$Course" "due" "[J", .code yX0_amountOf cX0_amountOf 11 (some .long), .methodLink RX0 86 yX4_cell, .instanceMethod yX4_cell, .selects RX4 yX4_cell yX4_cell, .initialized RX4, .methodLink RX0 110 yX4_gateOf, .instanceMethod yX4_gateOf, .selects RX4 yX4_gateOf yX4_gateOf, .methodLink RX0 113 yX0_openingOf, .instanceMethod yX0_openingOf, .selects RX0 yX0_openingOf yX0_openingOf, .methodLink RX0 107 Lib.MathLoose.min_long.x, .static Lib.MathLoose.min_long.x, .code Lib.MathLoose.min_long.x Lib.MathLoose.min_long.code 4 (some .long), .methodLink RX0 94 yX0_leakOf, .static yX0_leakOf, .constantLong RX0 117 (100), .methodLink RX0 98 yX4_capacityOf, .instanceMethod yX4_capacityOf, .selects RX4 yX4_capacityOf yX4_capacityOf, .methodLink RX0 101 Lib.MathLoose.max_long.x, .constantLong RX0 119 (10), .code yX4_cell cX4_cell 3 (some .int), .fieldLink RX4 9 "RiverModel$Model" "cells" "[I", .code yX4_gateOf cX4_gateOf 3 (some .int), .fieldLink RX4 28 "RiverModel$Model" "gates" "I", .fieldLink RX4 18 "RiverModel$Model" "gateItems" "[I", .code yX0_openingOf cX0_openingOf 2 (some .long), .fieldLink RX0 18 "RiverModel$Course" "openings" "[I", .code yX0_leakOf cX0_leakOf 8 (some .long), .code yX4_capacityOf cX4_capacityOf 2 (some .int), .methodLink RX4 66 yX4_hasStore, .instanceMethod yX4_hasStore, .selects RX4 yX4_hasStore yX4_hasStore, .fieldLink RX4 15 "RiverModel$Model" "storeItems" "[I", .methodLink RX4 73 yX4_cell, .code yX4_hasStore cX4_hasStore 2 (some .boolean), .code yX0_move cX0_move 8 none, .fieldLink RX0 25 "RiverModel$Course" "rained" "J", .methodLink RX0 124 yX0_send, .instanceMethod yX0_send, .selects RX0 yX0_send yX0_send, .fieldLink RX0 32 "RiverModel$Course" "sea" "J", .fieldLink RX0 29 "RiverModel$Course" "air" "J", .code yX0_send cX0_send 5 none, .code yX1_reading cX1_reading 4 (some .long), .methodLink RX1 35 yX1_isSet, .instanceMethod yX1_isSet, .selects RX1 yX1_isSet yX1_isSet, .fieldLink RX1 15 "RiverModel$Gauges" "places" "[I", .fieldLink RX1 9 "RiverModel$Gauges" "whats" "[I", .fieldLink RX1 50 "RiverModel$Course" "held" "[J", .static yX9_isNoItem, .fieldLink RX1 41 "RiverModel$Course" "moved" "[J", .code yX1_isSet cX1_isSet 2 (some .boolean), .code yX9_isNoItem cX9_isNoItem 1 (some .boolean)] ++ wsX50 ++ wsX00 ++ wsX60 ++ wsX40 ++ wsX10)
set_option maxRecDepth 20000 in
theorem gu_X5_peakOfBlock_X9_isNoGate_n : GoodIn uX5_peakOfBlock (uX9_isNoGate) := goodIn_r _ [32] rfl (by decide +kernel)
set_option maxRecDepth 20000 in
theorem gu_X5_peakOfBlock_X9_isNoStore_n : GoodIn uX5_peakOfBlock (uX9_isNoStore) := goodIn_r _ [33] rfl (by decide +kernel)
set_option maxRecDepth 20000 in
theorem gu_X5_peakOfBlock_X6_rainIn_84 : GoodIn uX5_peakOfBlock (wsV RX5 84 RX6 yX6_rainIn uX6_rainIn) := goodIn_r _ [10, 11, 12, 13, 34, 2, 35, 36, 37, 130, 131] rfl (by decide +kernel)
set_option maxRecDepth 20000 in
theorem gu_X5_peakOfBlock_X6_tempIn_90 : GoodIn uX5_peakOfBlock (wsV RX5 90 RX6 yX6_tempIn uX6_tempIn) := goodIn_r _ [14, 15, 16, 13, 38, 2, 35, 39, 37, 130, 131] rfl (by decide +kernel)
set_option maxRecDepth 20000 in
theorem gu_X5_peakOfBlock_X0_goHour_93 : GoodIn uX5_peakOfBlock (wsV RX5 93 RX0 yX0_goHour uX0_goHour) := goodIn_r _ [17, 18, 19, 20, 40, 41, 42, 43, 20, 44, 45, 46, 47, 48, 49, 50, 51, 52, 53, 54, 55, 56, 57, 58, 59, 60, 2, 6, 61, 62, 63, 64, 65, 66, 67, 68, 30, 69, 70, 71, 72, 73, 74, 75, 76, 29, 31, 77, 78, 79, 33, 80, 81, 82, 83, 3, 84, 32, 85, 86, 87, 88, 89, 90, 91, 92, 93, 94, 95, 96, 97, 98, 99, 100, 35, 37, 122, 123, 124, 125, 126, 127, 128, 129, 132, 133, 134, 135, 136, 137] rfl (by decide +kernel)
set_option maxRecDepth 20000 in
theorem gu_X5_peakOfBlock_X1_reading_101 : GoodIn uX5_peakOfBlock (wsV RX5 101 RX1 yX1_reading uX1_reading) := goodIn_r _ [24, 25, 26, 27, 101, 102, 103, 104, 27, 105, 106, 2, 6, 107, 108, 109, 110, 33, 111, 138, 139, 140, 141, 122, 123, 124, 125, 126, 127, 128, 129] rfl (by decide +kernel)
set_option maxHeartbeats 4000000 in
set_option maxRecDepth 100000 in
theorem s_X5_peakOfBlock (l : Launch) (D : va_G) (t : Nat → Nat) (cI cL cC : ClassId) (gC : Int32) (gE : Int32) (G : Nat) (gW : Nat → Int32) (gA : Nat → Int32) (a0 : Nat) (a1 : Nat) (a2 : Nat) (a3 : Nat) (a4 : Nat) (a5 : Int32) (a6 : Int64) (hGb : G ≤ 190000000) (k_a0 : t a0 = 9) (k_a1 : t a1 = 3) (k_a2 : t a2 = 4) (k_a3 : t a3 = 6) (k_a4 : t a4 = 5) : tM l yX5_peakOfBlock uX5_peakOfBlock 4 99 D (gF cI cL cC gC gE G gW gA) (gF cI cL cC gC gE (G + 6) gW gA) t cI cL cC [.ref a0, .ref a1, .ref a2, .ref a3, .ref a4, .int a5, .long a6] wrC (pL (fun r => True)) := by
  refine tM.ofW (cc := cX5_peakOfBlock) (maxL := 11) (ret := (some .long)) (by decide) rfl (Nat.le_of_ble_eq_true rfl) ?_
  intro p e s m below meth c hx hb hr hml hown hts hlk H locs hG hK hE hS ls hl
  have hl : lv_has ls 11 [(0, .ref a0), (1, .ref a1), (2, .ref a2), (3, .ref a3), (4, .ref a4), (5, .int a5), (6, .long a6)] := hl
  have in5 : ∀ w ∈ wsX50, w ∈ uX5_peakOfBlock := fun w h => List.mem_cons_of_mem _ (List.mem_append_left _ (List.mem_append_left _ (List.mem_append_left _ (List.mem_append_left _ (List.mem_append_right _ h)))))
  have in0 : ∀ w ∈ wsX00, w ∈ uX5_peakOfBlock := fun w h => List.mem_cons_of_mem _ (List.mem_append_left _ (List.mem_append_left _ (List.mem_append_left _ (List.mem_append_right _ h))))
  refine lv_aload_n hx hb dX5_peakOfBlock_0 rfl (lv_at hl 0 rfl) ?_
  obtain ⟨r_1, r_3, r_5, v_7, v_8, v_9, v_11, v_13, v_14, v_16, at_17, h_2, h_4, h_6, h_10, h_12, h_15⟩ := gF_o9 hG k_a0
  refine va_get (D := D) (ci := 4) (v := .int v_9) (C := RX5) (T := TX5) (N := 10) hx hb hts in5 hown hK (va_one at_17) 0 rfl rfl 5 (by decide) (hts (.fieldLink RX5 32 "RiverModel$Search" "gate" "I") (List.mem_of_getElem? (i := 1) rfl)) (fun _ h9 => h9) rfl dX5_peakOfBlock_1 ?_
  refine ty_calli (tRun (va_runSN (As := [.int v_9]) (rest := []) ⟨hx, hb, hml, hown, hts⟩ (s_X9_isNoGate l D t cI cL cC gC gE G gW gA v_9 ) ⟨(va_cnB 1 hts gu_X5_peakOfBlock_X9_isNoGate_n rfl rfl rfl (hE.2.1 _ (List.mem_of_getElem? (i := 24) rfl)) (hts (.initialized RX9) (List.mem_of_getElem? (i := 2) rfl)) (by decide +kernel) ⟨Nat.le_of_ble_eq_true rfl, Nat.le_of_ble_eq_true rfl⟩), (hts (.static yX9_isNoGate) (List.mem_of_getElem? (i := 3) rfl)), trivial⟩ (tP_S hG hE) rfl rfl hl.1 rfl (lv_room (Nat.le_of_ble_eq_true rfl)) dX5_peakOfBlock_4 ⟨Nat.le_of_ble_eq_true rfl, Nat.le_of_ble_eq_true rfl⟩)) hS (fun k h => by simp [wr0] at h) (fun r_18 H locs hp_19 hG hS o_20 => ?_)
  have at_17 := va_at.keptC at_17 o_20 k_a0 rfl
  rcases hp_19 with ⟨rfl, hc_103⟩ | ⟨rfl, hc_104, hc_105⟩
  · skip
    refine lv_if_ne (tgt := 20) hx hb dX5_peakOfBlock_7 (by decide) (fun _ => ?_) (fun q => absurd q (by decide))
    refine lv_ldc2 hx hb hown (hts (.constantLong RX5 61 (-1)) (List.mem_of_getElem? (i := 4) rfl)) dX5_peakOfBlock_20 ?_
    exact ty_lret hx hb hr hlk (hG.weak (fun _ _ => gF_mono (by omega))) hS True.intro dX5_peakOfBlock_23
  · skip
    refine lv_if_ne (tgt := 20) hx hb dX5_peakOfBlock_7 (by decide) (fun q => absurd rfl q) (fun _ => ?_)
    refine lv_pc (pc2 := 10) rfl ?_
    refine lv_aload_n hx hb dX5_peakOfBlock_10 rfl (lv_at hl 0 rfl) ?_
    refine va_get (D := D) (ci := 4) (v := .int v_14) (C := RX5) (T := TX5) (N := 10) hx hb hts in5 hown hK (va_one at_17) 0 rfl rfl 8 (by decide) (hts (.fieldLink RX5 42 "RiverModel$Search" "store" "I") (List.mem_of_getElem? (i := 5) rfl)) (fun _ h9 => h9) rfl dX5_peakOfBlock_11 ?_
    refine ty_calli (tRun (va_runSN (As := [.int v_14]) (rest := []) ⟨hx, hb, hml, hown, hts⟩ (s_X9_isNoStore l D t cI cL cC gC gE G gW gA v_14 ) ⟨(va_cnB 1 hts gu_X5_peakOfBlock_X9_isNoStore_n rfl rfl rfl (hE.2.1 _ (List.mem_of_getElem? (i := 25) rfl)) (hts (.initialized RX9) (List.mem_of_getElem? (i := 2) rfl)) (by decide +kernel) ⟨Nat.le_of_ble_eq_true rfl, Nat.le_of_ble_eq_true rfl⟩), (hts (.static yX9_isNoStore) (List.mem_of_getElem? (i := 6) rfl)), trivial⟩ (tP_S hG hE) rfl rfl hl.1 rfl (lv_room (Nat.le_of_ble_eq_true rfl)) dX5_peakOfBlock_14 ⟨Nat.le_of_ble_eq_true rfl, Nat.le_of_ble_eq_true rfl⟩)) hS (fun k h => by simp [wr0] at h) (fun r_21 H locs hp_22 hG hS o_23 => ?_)
    have at_17 := va_at.keptC at_17 o_23 k_a0 rfl
    rcases hp_22 with ⟨rfl, hc_106⟩ | ⟨rfl, hc_107, hc_108⟩
    · skip
      refine lv_if_eq (tgt := 24) hx hb dX5_peakOfBlock_17 (by decide) (fun q => absurd q (by decide)) (fun _ => ?_)
      refine lv_ldc2 hx hb hown (hts (.constantLong RX5 61 (-1)) (List.mem_of_getElem? (i := 4) rfl)) dX5_peakOfBlock_20 ?_
      exact ty_lret hx hb hr hlk (hG.weak (fun _ _ => gF_mono (by omega))) hS True.intro dX5_peakOfBlock_23
    · skip
      refine lv_if_eq (tgt := 24) hx hb dX5_peakOfBlock_17 (by decide) (fun _ => ?_) (fun q => absurd (by decide) q)
      refine lv_aload hx hb dX5_peakOfBlock_24 (lv_at hl 4 rfl) ?_
      refine lv_pc (pc2 := 26) rfl ?_
      obtain ⟨r_24, r_26, r_28, r_30, v_32, v_33, v_34, v_35, at_37, h_25, h_27, h_29, h_31, h_36⟩ := gF_o5 hG k_a4
      refine va_get (D := D) (ci := 0) (v := .ref r_28) (C := RX0) (T := TX0) (N := 8) hx hb hts in0 hown hK (va_one at_37) 0 rfl rfl 2 (by decide) (hts (.fieldLink RX5 78 "RiverModel$Course" "openings" "[I") (List.mem_of_getElem? (i := 7) rfl)) (fun _ h9 => h9) rfl dX5_peakOfBlock_26 ?_
      refine lv_aload_n hx hb dX5_peakOfBlock_29 rfl (lv_at hl 0 rfl) ?_
      refine va_get (D := D) (ci := 4) (v := .int v_9) (C := RX5) (T := TX5) (N := 10) hx hb hts in5 hown hK (va_one at_17) 0 rfl rfl 5 (by decide) (hts (.fieldLink RX5 32 "RiverModel$Search" "gate" "I") (List.mem_of_getElem? (i := 1) rfl)) (fun _ h9 => h9) rfl dX5_peakOfBlock_30 ?_
      refine lv_iload hx hb dX5_peakOfBlock_33 (lv_at hl 5 rfl) ?_
      obtain ⟨f_38, at_39⟩ := gF_o19 hG h_29
      have b_40 : vp_in v_9 4 := (q_in (by omega) (by omega))
      refine ty_iast (F2 := (gF cI cL cC gC gE G gW gA)) hx hb hK hG hS 0 at_39 (by rw [h_29]; rfl) rfl b_40 (by rw [h_29]; exact ⟨_, rfl⟩) tFF dX5_peakOfBlock_35 (fun H locs hG hS at_41 o_42 => ?_)
      have at_17 := va_at.keptK at_17 o_42 h_29 k_a0 rfl
      have at_37 := va_at.keptK at_37 o_42 h_29 k_a4 rfl
      refine lv_lload hx hb dX5_peakOfBlock_36 (lv_at hl 6 rfl) ?_
      refine lv_lstore (lv' := [(8, .long a6), (0, .ref a0), (1, .ref a1), (2, .ref a2), (3, .ref a3), (4, .ref a4), (5, .int a5), (6, .long a6)]) hx hb dX5_peakOfBlock_38 hl (by decide) rfl (fun ls hl => ?_)
      refine lv_iconst (v := 0) hx hb dX5_peakOfBlock_40 (by decide) ?_
      refine lv_pc (pc2 := 41) rfl ?_
      refine lv_istore (lv' := [(10, .int 0), (8, .long a6), (0, .ref a0), (1, .ref a1), (2, .ref a2), (3, .ref a3), (4, .ref a4), (5, .int a5), (6, .long a6)]) hx hb dX5_peakOfBlock_41 hl (by decide) rfl (fun ls hl => ?_)
      refine lv_pc (pc2 := 43) rfl ?_
      refine lp_gen (fun WW hWW => ?_)
      have kx : ∀ (yh : Int32) (yp : Int64) (g : Nat) (H1 : Heap) (locs1 : List Loc) (ls1 : Array Slot), 0 ≤ yh.toInt → yh.toInt ≤ 6 → (g : Int) + (6 - yh.toInt) ≤ (G : Int) + 6 → tG D (gF cI cL cC gC gE g gW gA) t H1 → tF t wrC s.heap H1 locs1 → lv_has ls1 11 [(10, .int yh), (8, .long yp), (0, .ref a0), (1, .ref a1), (2, .ref a2), (3, .ref a3), (4, .ref a4), (5, .int a5), (6, .long a6)] → WW H1 locs1 (F0 m 121 ls1 []) := by
        intro yh yp g H locs ls v0 v1 v2 hG hS hl
        refine (hWW _ _ _).mpr ?_
        refine lv_lload hx hb dX5_peakOfBlock_121 (lv_at hl 1 rfl) ?_
        exact ty_lret hx hb hr hlk (hG.weak (fun _ _ => gF_mono (by omega))) hS True.intro dX5_peakOfBlock_123
      have loop : ∀ (k : Nat) (yh : Int32) (yp : Int64) (g : Nat) (H1 : Heap) (locs1 : List Loc) (ls1 : Array Slot), 6 - yh.toInt ≤ (k : Int) → 0 ≤ yh.toInt → yh.toInt ≤ 6 → (g : Int) + (6 - yh.toInt) ≤ (G : Int) + 6 → tG D (gF cI cL cC gC gE g gW gA) t H1 → tF t wrC s.heap H1 locs1 → lv_has ls1 11 [(10, .int yh), (8, .long yp), (0, .ref a0), (1, .ref a1), (2, .ref a2), (3, .ref a3), (4, .ref a4), (5, .int a5), (6, .long a6)] → WW H1 locs1 (F0 m 43 ls1 []) := by
        intro k
        induction k with
        | zero =>
          intro yh yp g H locs ls hk v0 v1 v2 hG hS hl
          refine (hWW _ _ _).mpr ?_
          refine lv_iload hx hb dX5_peakOfBlock_43 (lv_at hl 0 rfl) ?_
          refine lv_aload_n hx hb dX5_peakOfBlock_45 rfl (lv_at hl 2 rfl) ?_
          obtain ⟨r_43, r_45, r_47, v_49, v_50, v_51, v_53, v_55, v_56, v_58, at_59, h_44, h_46, h_48, h_52, h_54, h_57⟩ := gF_o9 hG k_a0
          refine va_get (D := D) (ci := 4) (v := .int v_53) (C := RX5) (T := TX5) (N := 10) hx hb hts in5 hown hK (va_one at_59) 0 rfl rfl 6 (by decide) (hts (.fieldLink RX5 36 "RiverModel$Search" "blockHours" "I") (List.mem_of_getElem? (i := 8) rfl)) (fun _ h9 => h9) rfl dX5_peakOfBlock_46 ?_
          refine lv_icmp_ge (tgt := 121) hx hb dX5_peakOfBlock_49 (by decide) (fun c_60 => ?_) (fun c_60 => ?_)
          · skip
            have c_60 : v_53.toInt ≤ yh.toInt := q_le c_60
            exact (hWW _ _ _).mp (kx yh yp g H locs ls (by omega) (by omega) (by omega) hG hS (lv_sub hl [0, 1, 2, 3, 4, 5, 6, 7, 8] rfl))
          · skip
            have c_60 : yh.toInt < v_53.toInt := q_nle c_60
            refine lv_aload hx hb dX5_peakOfBlock_52 (lv_at hl 6 rfl) ?_
            refine lv_pc (pc2 := 54) rfl ?_
            refine lv_aload_n hx hb dX5_peakOfBlock_54 rfl (lv_at hl 3 rfl) ?_
            refine lv_aload_n hx hb dX5_peakOfBlock_55 rfl (lv_at hl 4 rfl) ?_
            refine lv_aload hx hb dX5_peakOfBlock_56 (lv_at hl 6 rfl) ?_
            obtain ⟨r_61, r_63, r_65, r_67, v_69, v_70, v_71, v_72, at_74, h_62, h_64, h_66, h_68, h_73⟩ := gF_o5 hG k_a4
            refine va_get (D := D) (ci := 0) (v := .int v_72) (C := RX0) (T := TX0) (N := 8) hx hb hts in0 hown hK (va_one at_74) 0 rfl rfl 7 (by decide) (hts (.fieldLink RX5 81 "RiverModel$Course" "hours" "I") (List.mem_of_getElem? (i := 9) rfl)) (fun _ h9 => h9) rfl dX5_peakOfBlock_58 ?_
            obtain ⟨r_75, r_77, at_79, h_76, h_78⟩ := gF_o4 hG k_a2
            refine ty_calli ((W.runV (As := [.int v_72]) (rest := [.ref a1, .ref a4]) ⟨hx, hb, hml, hown, hts⟩ (s_X6_rainIn l D t cI cL cC gC gE g gW gA a2 v_72 k_a2) (cwV 1 hts gu_X5_peakOfBlock_X6_rainIn_84 rfl rfl rfl (by decide +kernel) ⟨Nat.le_of_ble_eq_true rfl, Nat.le_of_ble_eq_true rfl⟩) (tP_V hG hE at_79 rfl) rfl rfl hl.1 rfl (lv_room (Nat.le_of_ble_eq_true rfl)) dX5_peakOfBlock_61 ⟨Nat.le_of_ble_eq_true rfl, Nat.le_of_ble_eq_true rfl⟩)) hS (fun k h => by simp [wr0] at h) (fun r_80 H locs hp_81 hG hS o_82 => ?_)
            have at_59 := va_at.keptC at_59 o_82 k_a0 rfl
            have at_74 := va_at.keptC at_74 o_82 k_a4 rfl
            have at_79 := va_at.keptC at_79 o_82 k_a2 rfl
            refine lv_aload_n hx hb dX5_peakOfBlock_64 rfl (lv_at hl 4 rfl) ?_
            refine lv_aload hx hb dX5_peakOfBlock_65 (lv_at hl 6 rfl) ?_
            refine va_get (D := D) (ci := 0) (v := .int v_72) (C := RX0) (T := TX0) (N := 8) hx hb hts in0 hown hK (va_one at_74) 0 rfl rfl 7 (by decide) (hts (.fieldLink RX5 81 "RiverModel$Course" "hours" "I") (List.mem_of_getElem? (i := 9) rfl)) (fun _ h9 => h9) rfl dX5_peakOfBlock_67 ?_
            refine lv_pc (pc2 := 70) rfl ?_
            refine ty_calli ((W.runV (As := [.int v_72]) (rest := [.int r_80, .ref a1, .ref a4]) ⟨hx, hb, hml, hown, hts⟩ (s_X6_tempIn l D t cI cL cC gC gE g gW gA a2 v_72 k_a2) (cwV 1 hts gu_X5_peakOfBlock_X6_tempIn_90 rfl rfl rfl (by decide +kernel) ⟨Nat.le_of_ble_eq_true rfl, Nat.le_of_ble_eq_true rfl⟩) (tP_V hG hE at_79 rfl) rfl rfl hl.1 rfl (lv_room (Nat.le_of_ble_eq_true rfl)) dX5_peakOfBlock_70 ⟨Nat.le_of_ble_eq_true rfl, Nat.le_of_ble_eq_true rfl⟩)) hS (fun k h => by simp [wr0] at h) (fun r_83 H locs hp_84 hG hS o_85 => ?_)
            have at_59 := va_at.keptC at_59 o_85 k_a0 rfl
            have at_74 := va_at.keptC at_74 o_85 k_a4 rfl
            have at_79 := va_at.keptC at_79 o_85 k_a2 rfl
            refine ty_callv ((W.runV (As := [.ref a1, .int r_80, .int r_83]) (rest := []) ⟨hx, hb, hml, hown, hts⟩ (s_X0_goHour l D t cI cL cC gC gE g gW gA a4 a1 r_80 r_83 (by omega) k_a4 k_a1) (cwV 3 hts gu_X5_peakOfBlock_X0_goHour_93 rfl rfl rfl (by decide +kernel) ⟨Nat.le_of_ble_eq_true rfl, Nat.le_of_ble_eq_true rfl⟩) (tP_V hG hE at_74 rfl) rfl rfl hl.1 rfl (lv_room (Nat.le_of_ble_eq_true rfl)) dX5_peakOfBlock_73 ⟨Nat.le_of_ble_eq_true rfl, Nat.le_of_ble_eq_true rfl⟩)) hS (fun _ h => h) (fun H locs hp_87 hG hS o_88 => ?_)
            have at_59 := va_at.keptC at_59 o_88 k_a0 rfl
            have at_79 := va_at.keptC at_79 o_88 k_a2 rfl
            refine lv_aload hx hb dX5_peakOfBlock_76 (lv_at hl 6 rfl) ?_
            obtain ⟨r_89, r_91, r_93, r_95, v_97, v_98, v_99, v_100, at_102, h_90, h_92, h_94, h_96, h_101⟩ := gF_o5 hG k_a4
            refine va_get (D := D) (ci := 0) (v := .ref r_89) (C := RX0) (T := TX0) (N := 8) hx hb hts in0 hown hK (va_one at_102) 0 rfl rfl 0 (by decide) (hts (.fieldLink RX5 97 "RiverModel$Course" "held" "[J") (List.mem_of_getElem? (i := 21) rfl)) (fun _ h9 => h9) rfl dX5_peakOfBlock_78 ?_
            refine lv_aload_n hx hb dX5_peakOfBlock_81 rfl (lv_at hl 2 rfl) ?_
            refine va_get (D := D) (ci := 4) (v := .int v_56) (C := RX5) (T := TX5) (N := 10) hx hb hts in5 hown hK (va_one at_59) 0 rfl rfl 8 (by decide) (hts (.fieldLink RX5 42 "RiverModel$Search" "store" "I") (List.mem_of_getElem? (i := 5) rfl)) (fun _ h9 => h9) rfl dX5_peakOfBlock_82 ?_
            obtain ⟨f_103, at_104⟩ := gF_o17 hG h_90
            have b_105 : vp_in v_56 16 := (q_in (by omega) (by omega))
            refine va_lald hx hb hK (va_one at_104) 0 1 rfl rfl b_105 dX5_peakOfBlock_85 ?_
            refine lv_topl (fun z_106 e_107 => ?_)
            refine lv_aload_n hx hb dX5_peakOfBlock_86 rfl (lv_at hl 2 rfl) ?_
            refine lv_pc (pc2 := 87) rfl ?_
            refine va_get (D := D) (ci := 4) (v := .long v_58) (C := RX5) (T := TX5) (N := 10) hx hb hts in5 hown hK (va_one at_59) 0 rfl rfl 9 (by decide) (hts (.fieldLink RX5 45 "RiverModel$Search" "limit" "J") (List.mem_of_getElem? (i := 22) rfl)) (fun _ h9 => h9) rfl dX5_peakOfBlock_87 ?_
            refine W.lcmp hx hb dX5_peakOfBlock_90 ?_
            refine lv_if_le (tgt := 98) hx hb dX5_peakOfBlock_91 (by decide) (fun c_108 => ?_) (fun c_108 => ?_)
            · skip
              have c_108 : z_106.toInt ≤ v_58.toInt := q_cmp_le c_108
              refine lv_lload hx hb dX5_peakOfBlock_98 (lv_at hl 1 rfl) ?_
              refine lv_aload_n hx hb dX5_peakOfBlock_100 rfl (lv_at hl 5 rfl) ?_
              refine lv_aload hx hb dX5_peakOfBlock_101 (lv_at hl 6 rfl) ?_
              refine lv_aload_n hx hb dX5_peakOfBlock_103 rfl (lv_at hl 2 rfl) ?_
              refine va_get (D := D) (ci := 4) (v := .int v_55) (C := RX5) (T := TX5) (N := 10) hx hb hts in5 hown hK (va_one at_59) 0 rfl rfl 7 (by decide) (hts (.fieldLink RX5 39 "RiverModel$Search" "gauge" "I") (List.mem_of_getElem? (i := 23) rfl)) (fun _ h9 => h9) rfl dX5_peakOfBlock_104 ?_
              refine lv_pc (pc2 := 107) rfl ?_
              obtain ⟨r_109, r_111, r_113, at_115, h_110, h_112, h_114⟩ := gF_o6 hG k_a3
              refine ty_calll ((W.runV (As := [.ref a4, .int v_55]) (rest := [.long yp]) ⟨hx, hb, hml, hown, hts⟩ (s_X1_reading l D t cI cL cC gC gE (g + 1) gW gA a3 a4 v_55 k_a3 k_a4) (cwV 2 hts gu_X5_peakOfBlock_X1_reading_101 rfl rfl rfl (by decide +kernel) ⟨Nat.le_of_ble_eq_true rfl, Nat.le_of_ble_eq_true rfl⟩) (tP_V hG hE at_115 rfl) rfl rfl hl.1 rfl (lv_room (Nat.le_of_ble_eq_true rfl)) dX5_peakOfBlock_107 ⟨Nat.le_of_ble_eq_true rfl, Nat.le_of_ble_eq_true rfl⟩)) hS (fun k h => by simp [wr0] at h) (fun z_116 H locs hp_117 hG hS o_118 => ?_)
              have at_59 := va_at.keptC at_59 o_118 k_a0 rfl
              have at_79 := va_at.keptC at_79 o_118 k_a2 rfl
              have at_102 := va_at.keptC at_102 o_118 k_a4 rfl
              have at_104 := va_at.keptC at_104 o_118 h_90 rfl
              have at_115 := va_at.keptC at_115 o_118 k_a3 rfl
              refine va_mmax_long hx hb (by rw [hml]; exact hl.1.symm) hown (hts (.methodLink RX5 107 Lib.MathLoose.max_long.x) (List.mem_of_getElem? (i := 28) rfl)) (hts (.static Lib.MathLoose.max_long.x) (List.mem_of_getElem? (i := 29) rfl)) (hts (.initialized "java/lang/Math") (List.mem_of_getElem? (i := 30) rfl)) (hts (.code Lib.MathLoose.max_long.x Lib.MathLoose.max_long.code 4 (some .long)) (List.mem_of_getElem? (i := 31) rfl)) (Nat.le_of_ble_eq_true rfl) (Nat.le_of_ble_eq_true rfl) (Nat.zero_le _) (Nat.zero_le _) dX5_peakOfBlock_110 ?_
              refine lv_topl (fun z_119 e_120 => ?_)
              refine lv_lstore (lv' := [(8, .long z_119), (10, .int yh), (0, .ref a0), (1, .ref a1), (2, .ref a2), (3, .ref a3), (4, .ref a4), (5, .int a5), (6, .long a6)]) hx hb dX5_peakOfBlock_113 hl (by decide) rfl (fun ls hl => ?_)
              obtain ⟨x_121, e_122⟩ : ∃ y : Int32, y = yh + Int32.ofInt 1 := ⟨_, rfl⟩
              have i_x_121 : x_121.toInt = yh.toInt + 1 := by rw [e_122, show Int32.ofInt 1 = 1 by decide]; exact (q_add (by rw [show (1 : Int32).toInt = 1 by decide]; omega) (by rw [show (1 : Int32).toInt = 1 by decide]; omega)).trans (by rw [show (1 : Int32).toInt = 1 by decide])
              refine lv_iinc (v := x_121) (lv' := [(10, .int x_121), (8, .long z_119), (0, .ref a0), (1, .ref a1), (2, .ref a2), (3, .ref a3), (4, .ref a4), (5, .int a5), (6, .long a6)]) hx hb dX5_peakOfBlock_115 hl (k := 1) rfl e_122.symm (by decide) rfl (fun ls hl => ?_)
              refine lv_goto (tgt := 43) hx hb dX5_peakOfBlock_118 (by decide) ?_
              exfalso; omega
            · skip
              have c_108 : v_58.toInt < z_106.toInt := q_cmp_nle c_108
              refine lv_ldc2 hx hb hown (hts (.constantLong RX5 61 (-1)) (List.mem_of_getElem? (i := 4) rfl)) dX5_peakOfBlock_94 ?_
              exact ty_lret hx hb hr hlk (hG.weak (fun _ _ => gF_mono (by omega))) hS True.intro dX5_peakOfBlock_97
        | succ k ih =>
          intro yh yp g H locs ls hk v0 v1 v2 hG hS hl
          refine (hWW _ _ _).mpr ?_
          refine lv_iload hx hb dX5_peakOfBlock_43 (lv_at hl 0 rfl) ?_
          refine lv_pc (pc2 := 45) rfl ?_
          refine lv_aload_n hx hb dX5_peakOfBlock_45 rfl (lv_at hl 2 rfl) ?_
          obtain ⟨r_123, r_125, r_127, v_129, v_130, v_131, v_133, v_135, v_136, v_138, at_139, h_124, h_126, h_128, h_132, h_134, h_137⟩ := gF_o9 hG k_a0
          refine va_get (D := D) (ci := 4) (v := .int v_133) (C := RX5) (T := TX5) (N := 10) hx hb hts in5 hown hK (va_one at_139) 0 rfl rfl 6 (by decide) (hts (.fieldLink RX5 36 "RiverModel$Search" "blockHours" "I") (List.mem_of_getElem? (i := 8) rfl)) (fun _ h9 => h9) rfl dX5_peakOfBlock_46 ?_
          refine lv_icmp_ge (tgt := 121) hx hb dX5_peakOfBlock_49 (by decide) (fun c_140 => ?_) (fun c_140 => ?_)
          · skip
            have c_140 : v_133.toInt ≤ yh.toInt := q_le c_140
            exact (hWW _ _ _).mp (kx yh yp g H locs ls (by omega) (by omega) (by omega) hG hS (lv_sub hl [0, 1, 2, 3, 4, 5, 6, 7, 8] rfl))
          · skip
            have c_140 : yh.toInt < v_133.toInt := q_nle c_140
            refine lv_aload hx hb dX5_peakOfBlock_52 (lv_at hl 6 rfl) ?_
            refine lv_aload_n hx hb dX5_peakOfBlock_54 rfl (lv_at hl 3 rfl) ?_
            refine lv_aload_n hx hb dX5_peakOfBlock_55 rfl (lv_at hl 4 rfl) ?_
            refine lv_aload hx hb dX5_peakOfBlock_56 (lv_at hl 6 rfl) ?_
            obtain ⟨r_141, r_143, r_145, r_147, v_149, v_150, v_151, v_152, at_154, h_142, h_144, h_146, h_148, h_153⟩ := gF_o5 hG k_a4
            refine va_get (D := D) (ci := 0) (v := .int v_152) (C := RX0) (T := TX0) (N := 8) hx hb hts in0 hown hK (va_one at_154) 0 rfl rfl 7 (by decide) (hts (.fieldLink RX5 81 "RiverModel$Course" "hours" "I") (List.mem_of_getElem? (i := 9) rfl)) (fun _ h9 => h9) rfl dX5_peakOfBlock_58 ?_
            refine lv_pc (pc2 := 61) rfl ?_
            obtain ⟨r_155, r_157, at_159, h_156, h_158⟩ := gF_o4 hG k_a2
            refine ty_calli ((W.runV (As := [.int v_152]) (rest := [.ref a1, .ref a4]) ⟨hx, hb, hml, hown, hts⟩ (s_X6_rainIn l D t cI cL cC gC gE g gW gA a2 v_152 k_a2) (cwV 1 hts gu_X5_peakOfBlock_X6_rainIn_84 rfl rfl rfl (by decide +kernel) ⟨Nat.le_of_ble_eq_true rfl, Nat.le_of_ble_eq_true rfl⟩) (tP_V hG hE at_159 rfl) rfl rfl hl.1 rfl (lv_room (Nat.le_of_ble_eq_true rfl)) dX5_peakOfBlock_61 ⟨Nat.le_of_ble_eq_true rfl, Nat.le_of_ble_eq_true rfl⟩)) hS (fun k h => by simp [wr0] at h) (fun r_160 H locs hp_161 hG hS o_162 => ?_)
            have at_139 := va_at.keptC at_139 o_162 k_a0 rfl
            have at_154 := va_at.keptC at_154 o_162 k_a4 rfl
            have at_159 := va_at.keptC at_159 o_162 k_a2 rfl
            refine lv_aload_n hx hb dX5_peakOfBlock_64 rfl (lv_at hl 4 rfl) ?_
            refine lv_aload hx hb dX5_peakOfBlock_65 (lv_at hl 6 rfl) ?_
            refine va_get (D := D) (ci := 0) (v := .int v_152) (C := RX0) (T := TX0) (N := 8) hx hb hts in0 hown hK (va_one at_154) 0 rfl rfl 7 (by decide) (hts (.fieldLink RX5 81 "RiverModel$Course" "hours" "I") (List.mem_of_getElem? (i := 9) rfl)) (fun _ h9 => h9) rfl dX5_peakOfBlock_67 ?_
            refine ty_calli ((W.runV (As := [.int v_152]) (rest := [.int r_160, .ref a1, .ref a4]) ⟨hx, hb, hml, hown, hts⟩ (s_X6_tempIn l D t cI cL cC gC gE g gW gA a2 v_152 k_a2) (cwV 1 hts gu_X5_peakOfBlock_X6_tempIn_90 rfl rfl rfl (by decide +kernel) ⟨Nat.le_of_ble_eq_true rfl, Nat.le_of_ble_eq_true rfl⟩) (tP_V hG hE at_159 rfl) rfl rfl hl.1 rfl (lv_room (Nat.le_of_ble_eq_true rfl)) dX5_peakOfBlock_70 ⟨Nat.le_of_ble_eq_true rfl, Nat.le_of_ble_eq_true rfl⟩)) hS (fun k h => by simp [wr0] at h) (fun r_163 H locs hp_164 hG hS o_165 => ?_)
            have at_139 := va_at.keptC at_139 o_165 k_a0 rfl
            have at_154 := va_at.keptC at_154 o_165 k_a4 rfl
            have at_159 := va_at.keptC at_159 o_165 k_a2 rfl
            refine ty_callv ((W.runV (As := [.ref a1, .int r_160, .int r_163]) (rest := []) ⟨hx, hb, hml, hown, hts⟩ (s_X0_goHour l D t cI cL cC gC gE g gW gA a4 a1 r_160 r_163 (by omega) k_a4 k_a1) (cwV 3 hts gu_X5_peakOfBlock_X0_goHour_93 rfl rfl rfl (by decide +kernel) ⟨Nat.le_of_ble_eq_true rfl, Nat.le_of_ble_eq_true rfl⟩) (tP_V hG hE at_154 rfl) rfl rfl hl.1 rfl (lv_room (Nat.le_of_ble_eq_true rfl)) dX5_peakOfBlock_73 ⟨Nat.le_of_ble_eq_true rfl, Nat.le_of_ble_eq_true rfl⟩)) hS (fun _ h => h) (fun H locs hp_167 hG hS o_168 => ?_)
            have at_139 := va_at.keptC at_139 o_168 k_a0 rfl
            have at_159 := va_at.keptC at_159 o_168 k_a2 rfl
            refine lv_aload hx hb dX5_peakOfBlock_76 (lv_at hl 6 rfl) ?_
            obtain ⟨r_169, r_171, r_173, r_175, v_177, v_178, v_179, v_180, at_182, h_170, h_172, h_174, h_176, h_181⟩ := gF_o5 hG k_a4
            refine va_get (D := D) (ci := 0) (v := .ref r_169) (C := RX0) (T := TX0) (N := 8) hx hb hts in0 hown hK (va_one at_182) 0 rfl rfl 0 (by decide) (hts (.fieldLink RX5 97 "RiverModel$Course" "held" "[J") (List.mem_of_getElem? (i := 21) rfl)) (fun _ h9 => h9) rfl dX5_peakOfBlock_78 ?_
            refine lv_pc (pc2 := 81) rfl ?_
            refine lv_aload_n hx hb dX5_peakOfBlock_81 rfl (lv_at hl 2 rfl) ?_
            refine va_get (D := D) (ci := 4) (v := .int v_136) (C := RX5) (T := TX5) (N := 10) hx hb hts in5 hown hK (va_one at_139) 0 rfl rfl 8 (by decide) (hts (.fieldLink RX5 42 "RiverModel$Search" "store" "I") (List.mem_of_getElem? (i := 5) rfl)) (fun _ h9 => h9) rfl dX5_peakOfBlock_82 ?_
            obtain ⟨f_183, at_184⟩ := gF_o17 hG h_170
            have b_185 : vp_in v_136 16 := (q_in (by omega) (by omega))
            refine va_lald hx hb hK (va_one at_184) 0 1 rfl rfl b_185 dX5_peakOfBlock_85 ?_
            refine lv_topl (fun z_186 e_187 => ?_)
            refine lv_aload_n hx hb dX5_peakOfBlock_86 rfl (lv_at hl 2 rfl) ?_
            refine va_get (D := D) (ci := 4) (v := .long v_138) (C := RX5) (T := TX5) (N := 10) hx hb hts in5 hown hK (va_one at_139) 0 rfl rfl 9 (by decide) (hts (.fieldLink RX5 45 "RiverModel$Search" "limit" "J") (List.mem_of_getElem? (i := 22) rfl)) (fun _ h9 => h9) rfl dX5_peakOfBlock_87 ?_
            refine W.lcmp hx hb dX5_peakOfBlock_90 ?_
            refine lv_if_le (tgt := 98) hx hb dX5_peakOfBlock_91 (by decide) (fun c_188 => ?_) (fun c_188 => ?_)
            · skip
              have c_188 : z_186.toInt ≤ v_138.toInt := q_cmp_le c_188
              refine lv_lload hx hb dX5_peakOfBlock_98 (lv_at hl 1 rfl) ?_
              refine lv_pc (pc2 := 100) rfl ?_
              refine lv_aload_n hx hb dX5_peakOfBlock_100 rfl (lv_at hl 5 rfl) ?_
              refine lv_aload hx hb dX5_peakOfBlock_101 (lv_at hl 6 rfl) ?_
              refine lv_aload_n hx hb dX5_peakOfBlock_103 rfl (lv_at hl 2 rfl) ?_
              refine va_get (D := D) (ci := 4) (v := .int v_135) (C := RX5) (T := TX5) (N := 10) hx hb hts in5 hown hK (va_one at_139) 0 rfl rfl 7 (by decide) (hts (.fieldLink RX5 39 "RiverModel$Search" "gauge" "I") (List.mem_of_getElem? (i := 23) rfl)) (fun _ h9 => h9) rfl dX5_peakOfBlock_104 ?_
              obtain ⟨r_189, r_191, r_193, at_195, h_190, h_192, h_194⟩ := gF_o6 hG k_a3
              refine ty_calll ((W.runV (As := [.ref a4, .int v_135]) (rest := [.long yp]) ⟨hx, hb, hml, hown, hts⟩ (s_X1_reading l D t cI cL cC gC gE (g + 1) gW gA a3 a4 v_135 k_a3 k_a4) (cwV 2 hts gu_X5_peakOfBlock_X1_reading_101 rfl rfl rfl (by decide +kernel) ⟨Nat.le_of_ble_eq_true rfl, Nat.le_of_ble_eq_true rfl⟩) (tP_V hG hE at_195 rfl) rfl rfl hl.1 rfl (lv_room (Nat.le_of_ble_eq_true rfl)) dX5_peakOfBlock_107 ⟨Nat.le_of_ble_eq_true rfl, Nat.le_of_ble_eq_true rfl⟩)) hS (fun k h => by simp [wr0] at h) (fun z_196 H locs hp_197 hG hS o_198 => ?_)
              have at_139 := va_at.keptC at_139 o_198 k_a0 rfl
              have at_159 := va_at.keptC at_159 o_198 k_a2 rfl
              have at_182 := va_at.keptC at_182 o_198 k_a4 rfl
              have at_184 := va_at.keptC at_184 o_198 h_170 rfl
              have at_195 := va_at.keptC at_195 o_198 k_a3 rfl
              refine va_mmax_long hx hb (by rw [hml]; exact hl.1.symm) hown (hts (.methodLink RX5 107 Lib.MathLoose.max_long.x) (List.mem_of_getElem? (i := 28) rfl)) (hts (.static Lib.MathLoose.max_long.x) (List.mem_of_getElem? (i := 29) rfl)) (hts (.initialized "java/lang/Math") (List.mem_of_getElem? (i := 30) rfl)) (hts (.code Lib.MathLoose.max_long.x Lib.MathLoose.max_long.code 4 (some .long)) (List.mem_of_getElem? (i := 31) rfl)) (Nat.le_of_ble_eq_true rfl) (Nat.le_of_ble_eq_true rfl) (Nat.zero_le _) (Nat.zero_le _) dX5_peakOfBlock_110 ?_
              refine lv_topl (fun z_199 e_200 => ?_)
              refine lv_lstore (lv' := [(8, .long z_199), (10, .int yh), (0, .ref a0), (1, .ref a1), (2, .ref a2), (3, .ref a3), (4, .ref a4), (5, .int a5), (6, .long a6)]) hx hb dX5_peakOfBlock_113 hl (by decide) rfl (fun ls hl => ?_)
              obtain ⟨x_201, e_202⟩ : ∃ y : Int32, y = yh + Int32.ofInt 1 := ⟨_, rfl⟩
              have i_x_201 : x_201.toInt = yh.toInt + 1 := by rw [e_202, show Int32.ofInt 1 = 1 by decide]; exact (q_add (by rw [show (1 : Int32).toInt = 1 by decide]; omega) (by rw [show (1 : Int32).toInt = 1 by decide]; omega)).trans (by rw [show (1 : Int32).toInt = 1 by decide])
              refine lv_iinc (v := x_201) (lv' := [(10, .int x_201), (8, .long z_199), (0, .ref a0), (1, .ref a1), (2, .ref a2), (3, .ref a3), (4, .ref a4), (5, .int a5), (6, .long a6)]) hx hb dX5_peakOfBlock_115 hl (k := 1) rfl e_202.symm (by decide) rfl (fun ls hl => ?_)
              refine lv_pc (pc2 := 118) rfl ?_
              refine lv_goto (tgt := 43) hx hb dX5_peakOfBlock_118 (by decide) ?_
              exact (hWW _ _ _).mp (ih x_201 z_199 (g + 1) H locs ls (by omega) (by omega) (by omega) (by omega) hG hS (lv_sub hl [0, 1, 2, 3, 4, 5, 6, 7, 8] rfl))
            · skip
              have c_188 : v_138.toInt < z_186.toInt := q_cmp_nle c_188
              refine lv_ldc2 hx hb hown (hts (.constantLong RX5 61 (-1)) (List.mem_of_getElem? (i := 4) rfl)) dX5_peakOfBlock_94 ?_
              exact ty_lret hx hb hr hlk (hG.weak (fun _ _ => gF_mono (by omega))) hS True.intro dX5_peakOfBlock_97
      have hz_yh : (0 : Int32).toInt = 0 := by decide
      exact loop (6 - 0 : Int).toNat 0 a6 G H locs ls (by omega) (by omega) (by omega) (by omega) hG hS (lv_sub hl [0, 1, 2, 3, 4, 5, 6, 7, 8] rfl)

def uX5_tryBlock_3 : List Cond := .code yX5_tryBlock cX5_tryBlock 12 none :: ([.initialized RX9, .static yX9_isOutside, .fieldLink RX5 11 "RiverModel$Search" "blockEnds" "[LRiverModel$Course;", .fieldLink RX5 17 "RiverModel$Search" "tried" "[I", .methodLink RX5 53 yX0_copyFrom, .instanceMethod yX0_copyFrom, .selects RX0 yX0_copyFrom yX0_copyFrom, .initialized RX0, .methodLink RX5 57 yX5_peakOfBlock, .instanceMethod yX5_peakOfBlock, .selects RX5 yX5_peakOfBlock yX5_peakOfBlock, .initialized RX5, .constantLong RX5 61 (-1), .fieldLink RX5 24 "RiverModel$Search" "isFound" "Z", .methodLink RX5 63 yX5_takeTried, .instanceMethod yX5_takeTried, .selects RX5 yX5_takeTried yX5_takeTried, .fieldLink RX5 28 "RiverModel$Search" "leastPeak" "J", .code yX9_isOutside cX9_isOutside 3 (some .boolean), .code yX0_copyFrom cX0_copyFrom 2 none, .fieldLink RX0 9 "RiverModel$Course" "held" "[J", .methodLink RX0 54 arraycopyName, .native arraycopyName, .static arraycopyName, .initialized "java/lang/System", .fieldLink RX0 15 "RiverModel$Course" "moved" "[J", .fieldLink RX0 18 "RiverModel$Course" "openings" "[I", .fieldLink RX0 22 "RiverModel$Course" "due" "[J", .fieldLink RX0 25 "RiverModel$Course" "rained" "J", .fieldLink RX0 29 "RiverModel$Course" "air" "J", .fieldLink RX0 32 "RiverModel$Course" "sea" "J", .fieldLink RX0 35 "RiverModel$Course" "hours" "I", .code yX5_peakOfBlock cX5_peakOfBlock 11 (some .long), .fieldLink RX5 32 "RiverModel$Search" "gate" "I", .static yX9_isNoGate, .fieldLink RX5 42 "RiverModel$Search" "store" "I", .static yX9_isNoStore, .fieldLink RX5 78 "RiverModel$Course" "openings" "[I", .fieldLink RX5 36 "RiverModel$Search" "blockHours" "I", .fieldLink RX5 81 "RiverModel$Course" "hours" "I", .methodLink RX5 84 yX6_rainIn, .instanceMethod yX6_rainIn, .selects RX6 yX6_rainIn yX6_rainIn, .initialized RX6, .methodLink RX5 90 yX6_tempIn, .instanceMethod yX6_tempIn, .selects RX6 yX6_tempIn yX6_tempIn, .methodLink RX5 93 yX0_goHour, .instanceMethod yX0_goHour, .selects RX0 yX0_goHour yX0_goHour, .fieldLink RX5 97 "RiverModel$Course" "held" "[J", .fieldLink RX5 45 "RiverModel$Search" "limit" "J", .fieldLink RX5 39 "RiverModel$Search" "gauge" "I", .methodLink RX5 101 yX1_reading, .instanceMethod yX1_reading, .selects RX1 yX1_reading yX1_reading, .initialized RX1, .methodLink RX5 107 Lib.MathLoose.max_long.x, .static Lib.MathLoose.max_long.x, .initialized "java/lang/Math", .code Lib.MathLoose.max_long.x Lib.MathLoose.max_long.code 4 (some .long), .code yX9_isNoGate cX9_isNoGate 1 (some .boolean), .code yX9_isNoStore cX9_isNoStore 1 (some .boolean), .code yX6_rainIn cX6_rainIn 2 (some .int), .fieldLink RX6 9 "RiverModel$Sky" "rains" "[I", .code yX6_tempIn cX6_tempIn 2 (some .int), .fieldLink RX6 15 "RiverModel$Sky" "temps" "[I", .code yX0_goHour cX0_goHour 7 none, .methodLink RX0 72 yX0_bringDue, .instanceMethod yX0_bringDue, .selects RX0 yX0_bringDue yX0_bringDue, .fieldLink RX0 75 "RiverModel$Model" "many" "I", .methodLink RX0 78 yX0_amountOf, .instanceMethod yX0_amountOf, .selects RX0 yX0_amountOf yX0_amountOf, .methodLink RX0 82 yX0_move, .instanceMethod yX0_move, .selects RX0 yX0_move yX0_move, .code yX0_bringDue cX0_bringDue 3 none, .code yX0_amountOf cX0_amountOf 11 (some .long), .methodLink RX0 86 yX4_cell, .instanceMethod yX4_cell, .selects RX4 yX4_cell yX4_cell, .initialized RX4, .methodLink RX0 110 yX4_gateOf, .instanceMethod yX4_gateOf, .selects RX4 yX4_gateOf yX4_gateOf, .methodLink RX0 113 yX0_openingOf, .instanceMethod yX0_openingOf, .selects RX0 yX0_openingOf yX0_openingOf, .methodLink RX0 107 Lib.MathLoose.min_long.x, .static Lib.MathLoose.min_long.x, .code Lib.MathLoose.min_long.x Lib.MathLoose.min_long.code 4 (some .long), .methodLink RX0 94 yX0_leakOf, .static yX0_leakOf, .constantLong RX0 117 (100), .methodLink RX0 98 yX4_capacityOf, .instanceMethod yX4_capacityOf, .selects RX4 yX4_capacityOf yX4_capacityOf, .methodLink RX0 101 Lib.MathLoose.max_long.x, .constantLong RX0 119 (10), .code yX4_cell cX4_cell 3 (some .int), .fieldLink RX4 9 "RiverModel$Model" "cells" "[I", .code yX4_gateOf cX4_gateOf 3 (some .int), .fieldLink RX4 28 "RiverModel$Model" "gates" "I", .fieldLink RX4 18 "RiverModel$Model" "gateItems" "[I", .code yX0_openingOf cX0_openingOf 2 (some .long), .code yX0_leakOf cX0_leakOf 8 (some .long), .code yX4_capacityOf cX4_capacityOf 2 (some .int), .methodLink RX4 66 yX4_hasStore, .instanceMethod yX4_hasStore, .selects RX4 yX4_hasStore yX4_hasStore, .fieldLink RX4 15 "RiverModel$Model" "storeItems" "[I", .methodLink RX4 73 yX4_cell, .code yX4_hasStore cX4_hasStore 2 (some .boolean), .code yX0_move cX0_move 8 none, .methodLink RX0 124 yX0_send, .instanceMethod yX0_send, .selects RX0 yX0_send yX0_send, .code yX0_send cX0_send 5 none, .code yX1_reading cX1_reading 4 (some .long), .methodLink RX1 35 yX1_isSet, .instanceMethod yX1_isSet, .selects RX1 yX1_isSet yX1_isSet, .fieldLink RX1 15 "RiverModel$Gauges" "places" "[I", .fieldLink RX1 9 "RiverModel$Gauges" "whats" "[I", .fieldLink RX1 50 "RiverModel$Course" "held" "[J", .static yX9_isNoItem, .fieldLink RX1 41 "RiverModel$Course" "moved" "[J", .code yX1_isSet cX1_isSet 2 (some .boolean), .code yX9_isNoItem cX9_isNoItem 1 (some .boolean), .code yX5_takeTried cX5_takeTried 3 none, .fieldLink RX5 21 "RiverModel$Search" "found" "[I", .methodLink RX5 113 arraycopyName] ++ wsX50 ++ wsX00 ++ wsX60 ++ wsX40 ++ wsX10)
set_option maxRecDepth 20000 in
theorem gu_X5_tryBlock_3_X9_isOutside_n : GoodIn uX5_tryBlock_3 (uX9_isOutside) := goodIn_r _ [19] rfl (by decide +kernel)
set_option maxRecDepth 20000 in
theorem gu_X5_tryBlock_3_X0_copyFrom_53 : GoodIn uX5_tryBlock_3 (wsV RX5 53 RX0 yX0_copyFrom uX0_copyFrom) := goodIn_r _ [5, 6, 7, 8, 20, 21, 22, 23, 24, 25, 26, 27, 28, 29, 30, 31, 32, 145, 146, 147, 148, 149, 150, 151, 152] rfl (by decide +kernel)
set_option maxRecDepth 20000 in
theorem gu_X5_tryBlock_3_X5_peakOfBlock_57 : GoodIn uX5_tryBlock_3 (wsV RX5 57 RX5 yX5_peakOfBlock uX5_peakOfBlock) := goodIn_r _ [9, 10, 11, 12, 33, 34, 1, 35, 13, 36, 37, 38, 39, 40, 41, 42, 43, 44, 45, 46, 47, 48, 49, 50, 8, 51, 52, 53, 54, 55, 56, 57, 58, 59, 60, 61, 62, 63, 64, 2, 65, 19, 66, 67, 68, 69, 70, 71, 32, 72, 73, 74, 75, 26, 76, 77, 78, 79, 21, 28, 80, 81, 82, 83, 84, 85, 86, 87, 88, 89, 90, 91, 92, 93, 94, 95, 96, 97, 98, 99, 100, 101, 102, 103, 104, 105, 106, 107, 27, 108, 109, 110, 111, 112, 113, 114, 115, 116, 29, 117, 118, 119, 31, 30, 120, 121, 122, 123, 124, 125, 126, 127, 128, 129, 130, 131, 135, 136, 137, 138, 139, 140, 141, 142, 143, 144, 145, 146, 147, 148, 149, 150, 151, 152, 153, 154, 155, 156, 157, 158, 159, 160, 161, 162, 163, 164] rfl (by decide +kernel)
set_option maxRecDepth 20000 in
theorem gu_X5_tryBlock_3_X5_takeTried_63 : GoodIn uX5_tryBlock_3 (wsV RX5 63 RX5 yX5_takeTried uX5_takeTried) := goodIn_r _ [15, 16, 17, 12, 132, 14, 18, 4, 133, 134, 23, 24, 25, 135, 136, 137, 138, 139, 140, 141, 142, 143, 144] rfl (by decide +kernel)
set_option maxHeartbeats 4000000 in
set_option maxRecDepth 100000 in
theorem s_X5_tryBlock_3 (l : Launch) (D : va_G) (t : Nat → Nat) (cI cL cC : ClassId) (gC : Int32) (gE : Int32) (G : Nat) (gW : Nat → Int32) (gA : Nat → Int32) (a0 : Nat) (a1 : Nat) (a2 : Nat) (a3 : Nat) (a4 : Nat) (a6 : Int64) (hGb : G ≤ 153000000) (k_a0 : t a0 = 9) (k_a1 : t a1 = 3) (k_a2 : t a2 = 4) (k_a3 : t a3 = 6) (k_a4 : t a4 = 5) : tM l yX5_tryBlock uX5_tryBlock_3 5 129 D (gF cI cL cC gC gE G gW gA) (gF cI cL cC gC gE (G + 36) gW gA) t cI cL cC [.ref a0, .ref a1, .ref a2, .ref a3, .ref a4, .int 3, .long a6] wrS (pV (True)) := by
  refine tM.ofW (cc := cX5_tryBlock) (maxL := 12) (ret := none) (by decide) rfl (Nat.le_of_ble_eq_true rfl) ?_
  intro p e s m below meth c hx hb hr hml hown hts hlk H locs hG hK hE hS ls hl
  have hl : lv_has ls 12 [(0, .ref a0), (1, .ref a1), (2, .ref a2), (3, .ref a3), (4, .ref a4), (5, .int 3), (6, .long a6)] := hl
  have in5 : ∀ w ∈ wsX50, w ∈ uX5_tryBlock_3 := fun w h => List.mem_cons_of_mem _ (List.mem_append_left _ (List.mem_append_left _ (List.mem_append_left _ (List.mem_append_left _ (List.mem_append_right _ h)))))
  refine lv_iload hx hb dX5_tryBlock_0 (lv_at hl 5 rfl) ?_
  refine lv_iconst (v := 0) hx hb dX5_tryBlock_2 (by decide) ?_
  refine lv_iconst (v := 3) hx hb dX5_tryBlock_3 (by decide) ?_
  refine ty_calli (tRun (va_runSN (As := [.int 3, .int 0, .int 3]) (rest := []) ⟨hx, hb, hml, hown, hts⟩ (s_X9_isOutside l D t cI cL cC gC gE G gW gA 3 0 3 0 3 (by decide) (by decide) ) ⟨(va_cnB 3 hts gu_X5_tryBlock_3_X9_isOutside_n rfl rfl rfl (hE.2.1 _ (List.mem_of_getElem? (i := 23) rfl)) (hts (.initialized RX9) (List.mem_of_getElem? (i := 1) rfl)) (by decide +kernel) ⟨Nat.le_of_ble_eq_true rfl, Nat.le_of_ble_eq_true rfl⟩), (hts (.static yX9_isOutside) (List.mem_of_getElem? (i := 2) rfl)), trivial⟩ (tP_S hG hE) rfl rfl hl.1 rfl (lv_room (Nat.le_of_ble_eq_true rfl)) dX5_tryBlock_4 ⟨Nat.le_of_ble_eq_true rfl, Nat.le_of_ble_eq_true rfl⟩)) hS (fun k h => by simp [wr0] at h) (fun r_1 H locs hp_2 hG hS o_3 => ?_)
  rcases hp_2 with ⟨rfl, hc_109⟩ | ⟨rfl, hc_110, hc_111⟩
  · skip
    refine lv_if_eq (tgt := 11) hx hb dX5_tryBlock_7 (by decide) (fun q => absurd q (by decide)) (fun _ => ?_)
    exact ty_vret hx hb hr hlk (hG.weak (fun _ _ => gF_mono (by omega))) hS True.intro dX5_tryBlock_10
  · skip
    refine lv_if_eq (tgt := 11) hx hb dX5_tryBlock_7 (by decide) (fun _ => ?_) (fun q => absurd (by decide) q)
    refine lv_pc (pc2 := 11) rfl ?_
    refine lv_aload_n hx hb dX5_tryBlock_11 rfl (lv_at hl 0 rfl) ?_
    obtain ⟨r_4, r_6, r_8, v_10, v_11, v_12, v_14, v_16, v_17, v_19, at_20, h_5, h_7, h_9, h_13, h_15, h_18⟩ := gF_o9 hG k_a0
    refine va_get (D := D) (ci := 4) (v := .ref r_4) (C := RX5) (T := TX5) (N := 10) hx hb hts in5 hown hK (va_one at_20) 0 rfl rfl 0 (by decide) (hts (.fieldLink RX5 11 "RiverModel$Search" "blockEnds" "[LRiverModel$Course;") (List.mem_of_getElem? (i := 3) rfl)) (fun _ h9 => h9) rfl dX5_tryBlock_12 ?_
    refine lv_iload hx hb dX5_tryBlock_15 (lv_at hl 5 rfl) ?_
    obtain ⟨f_21, at_22, h_23⟩ := gF_o32 hG h_5
    have b_24 : vp_in 3 4 := (q_in (by decide) (by decide))
    refine va_aldq hx hb hK (va_one at_22) 0 2 rfl rfl b_24 dX5_tryBlock_17 ?_
    obtain ⟨r_25, e_26, h_27⟩ := h_23 _ (q_inlt b_24)
    rw [e_26]
    show W p l _ _ s m _ below meth c _ _ _ _ _ (F0 m _ ls (.ref r_25 :: _))
    refine lv_astore (lv' := [(8, .ref r_25), (0, .ref a0), (1, .ref a1), (2, .ref a2), (3, .ref a3), (4, .ref a4), (5, .int 3), (6, .long a6)]) hx hb dX5_tryBlock_18 hl (by decide) rfl (fun ls hl => ?_)
    refine lv_iconst (v := 0) hx hb dX5_tryBlock_20 (by decide) ?_
    refine lv_istore (lv' := [(9, .int 0), (8, .ref r_25), (0, .ref a0), (1, .ref a1), (2, .ref a2), (3, .ref a3), (4, .ref a4), (5, .int 3), (6, .long a6)]) hx hb dX5_tryBlock_21 hl (by decide) rfl (fun ls hl => ?_)
    refine lv_pc (pc2 := 23) rfl ?_
    refine lp_gen (fun WW hWW => ?_)
    have kx : ∀ (yo : Int32) (g : Nat) (H1 : Heap) (locs1 : List Loc) (ls1 : Array Slot), 0 ≤ yo.toInt → yo.toInt ≤ 12 → 2 * (g : Int) + 6 * (12 - yo.toInt) ≤ 2 * (G : Int) + 72 → tG D (gF cI cL cC gC gE g gW gA) t H1 → tF t wrS s.heap H1 locs1 → lv_has ls1 12 [(9, .int yo), (8, .ref r_25), (0, .ref a0), (1, .ref a1), (2, .ref a2), (3, .ref a3), (4, .ref a4), (5, .int 3), (6, .long a6)] → WW H1 locs1 (F0 m 126 ls1 []) := by
      intro yo g H locs ls v0 v1 v2 hG hS hl
      refine (hWW _ _ _).mpr ?_
      exact ty_vret hx hb hr hlk (hG.weak (fun _ _ => gF_mono (by omega))) hS True.intro dX5_tryBlock_126
    have loop : ∀ (k : Nat) (yo : Int32) (g : Nat) (H1 : Heap) (locs1 : List Loc) (ls1 : Array Slot), 12 - yo.toInt ≤ (k : Int) → 0 ≤ yo.toInt → yo.toInt ≤ 12 → 2 * (g : Int) + 6 * (12 - yo.toInt) ≤ 2 * (G : Int) + 72 → tG D (gF cI cL cC gC gE g gW gA) t H1 → tF t wrS s.heap H1 locs1 → lv_has ls1 12 [(9, .int yo), (8, .ref r_25), (0, .ref a0), (1, .ref a1), (2, .ref a2), (3, .ref a3), (4, .ref a4), (5, .int 3), (6, .long a6)] → WW H1 locs1 (F0 m 23 ls1 []) := by
      intro k
      induction k with
      | zero =>
        intro yo g H locs ls hk v0 v1 v2 hG hS hl
        refine (hWW _ _ _).mpr ?_
        refine lv_pc (pc2 := 23) rfl ?_
        refine lv_iload hx hb dX5_tryBlock_23 (lv_at hl 0 rfl) ?_
        refine lv_bipush (v := 10) hx hb dX5_tryBlock_25 (by decide) ?_
        refine lv_icmp_gt (tgt := 126) hx hb dX5_tryBlock_27 (by decide) (fun c_28 => ?_) (fun c_28 => ?_)
        · skip
          have c_28 : 10 < yo.toInt := q_lt c_28
          exact (hWW _ _ _).mp (kx yo g H locs ls (by omega) (by omega) (by omega) hG hS (lv_sub hl [0, 1, 2, 3, 4, 5, 6, 7, 8] rfl))
        · skip
          have c_28 : yo.toInt ≤ 10 := q_nlt c_28
          refine lv_aload_n hx hb dX5_tryBlock_30 rfl (lv_at hl 2 rfl) ?_
          obtain ⟨r_29, r_31, r_33, v_35, v_36, v_37, v_39, v_41, v_42, v_44, at_45, h_30, h_32, h_34, h_38, h_40, h_43⟩ := gF_o9 hG k_a0
          refine va_get (D := D) (ci := 4) (v := .ref r_31) (C := RX5) (T := TX5) (N := 10) hx hb hts in5 hown hK (va_one at_45) 0 rfl rfl 1 (by decide) (hts (.fieldLink RX5 17 "RiverModel$Search" "tried" "[I") (List.mem_of_getElem? (i := 4) rfl)) (fun _ h9 => h9) rfl dX5_tryBlock_31 ?_
          refine lv_iload hx hb dX5_tryBlock_34 (lv_at hl 7 rfl) ?_
          refine lv_iload hx hb dX5_tryBlock_36 (lv_at hl 0 rfl) ?_
          obtain ⟨f_46, at_47⟩ := gF_o33 hG h_32
          have b_48 : vp_in 3 4 := (q_in (by decide) (by decide))
          refine ty_iast (F2 := (gF cI cL cC gC gE g gW gA)) hx hb hK hG hS 0 at_47 (by rw [h_32]; rfl) rfl b_48 (by rw [h_32]; exact ⟨_, rfl⟩) tFF dX5_tryBlock_38 (fun H locs hG hS at_49 o_50 => ?_)
          have at_45 := va_at.keptK at_45 o_50 h_32 k_a0 rfl
          refine lv_pc (pc2 := 39) rfl ?_
          refine lv_aload hx hb dX5_tryBlock_39 (lv_at hl 1 rfl) ?_
          refine lv_aload hx hb dX5_tryBlock_41 (lv_at hl 6 rfl) ?_
          obtain ⟨r_51, r_53, r_55, r_57, v_59, v_60, v_61, v_62, at_64, h_52, h_54, h_56, h_58, h_63⟩ := gF_o5 hG h_27
          refine ty_callv ((W.runV (As := [.ref a4]) (rest := []) ⟨hx, hb, hml, hown, hts⟩ (s_X0_copyFrom l D t cI cL cC gC gE g gW gA r_25 a4 h_27 k_a4) (cwV 1 hts gu_X5_tryBlock_3_X0_copyFrom_53 rfl rfl rfl (by decide +kernel) ⟨Nat.le_of_ble_eq_true rfl, Nat.le_of_ble_eq_true rfl⟩) (tP_V hG hE at_64 rfl) rfl rfl hl.1 rfl (lv_room (Nat.le_of_ble_eq_true rfl)) dX5_tryBlock_43 ⟨Nat.le_of_ble_eq_true rfl, Nat.le_of_ble_eq_true rfl⟩)) hS (wrL_sub (by decide)) (fun H locs hp_66 hG hS o_67 => ?_)
          have at_45 := va_at.keptC at_45 o_67 k_a0 rfl
          refine lv_aload_n hx hb dX5_tryBlock_46 rfl (lv_at hl 2 rfl) ?_
          refine lv_aload_n hx hb dX5_tryBlock_47 rfl (lv_at hl 3 rfl) ?_
          refine lv_aload_n hx hb dX5_tryBlock_48 rfl (lv_at hl 4 rfl) ?_
          refine lv_aload_n hx hb dX5_tryBlock_49 rfl (lv_at hl 5 rfl) ?_
          refine lv_aload hx hb dX5_tryBlock_50 (lv_at hl 1 rfl) ?_
          refine lv_pc (pc2 := 52) rfl ?_
          refine lv_iload hx hb dX5_tryBlock_52 (lv_at hl 0 rfl) ?_
          refine lv_lload hx hb dX5_tryBlock_54 (lv_at hl 8 rfl) ?_
          refine ty_calll ((W.runV (As := [.ref a1, .ref a2, .ref a3, .ref r_25, .int yo, .long a6]) (rest := []) ⟨hx, hb, hml, hown, hts⟩ (s_X5_peakOfBlock l D t cI cL cC gC gE g gW gA a0 a1 a2 a3 r_25 yo a6 (by omega) k_a0 k_a1 k_a2 k_a3 h_27) (cwV 6 hts gu_X5_tryBlock_3_X5_peakOfBlock_57 rfl rfl rfl (by decide +kernel) ⟨Nat.le_of_ble_eq_true rfl, Nat.le_of_ble_eq_true rfl⟩) (tP_V hG hE at_45 rfl) rfl rfl hl.1 rfl (lv_room (Nat.le_of_ble_eq_true rfl)) dX5_tryBlock_56 ⟨Nat.le_of_ble_eq_true rfl, Nat.le_of_ble_eq_true rfl⟩)) hS (wrL_sub (by decide)) (fun z_68 H locs hp_69 hG hS o_70 => ?_)
          have at_45 := va_at.keptC at_45 o_70 k_a0 rfl
          refine lv_lstore (lv' := [(10, .long z_68), (9, .int yo), (8, .ref r_25), (0, .ref a0), (1, .ref a1), (2, .ref a2), (3, .ref a3), (4, .ref a4), (5, .int 3), (6, .long a6)]) hx hb dX5_tryBlock_59 hl (by decide) rfl (fun ls hl => ?_)
          refine lv_lload hx hb dX5_tryBlock_61 (lv_at hl 0 rfl) ?_
          refine lv_ldc2 hx hb hown (hts (.constantLong RX5 61 (-1)) (List.mem_of_getElem? (i := 13) rfl)) dX5_tryBlock_63 ?_
          refine W.lcmp hx hb dX5_tryBlock_66 ?_
          refine lv_if_eq (tgt := 120) hx hb dX5_tryBlock_67 (by decide) (fun c_71 => ?_) (fun c_71 => ?_)
          · skip
            have c_71 : z_68.toInt = (-1) := q_cmp_eq c_71
            refine lv_pc (pc2 := 120) rfl ?_
            obtain ⟨x_72, e_73⟩ : ∃ y : Int32, y = yo + Int32.ofInt 2 := ⟨_, rfl⟩
            have i_x_72 : x_72.toInt = yo.toInt + 2 := by rw [e_73, show Int32.ofInt 2 = 2 by decide]; exact (q_add (by rw [show (2 : Int32).toInt = 2 by decide]; omega) (by rw [show (2 : Int32).toInt = 2 by decide]; omega)).trans (by rw [show (2 : Int32).toInt = 2 by decide])
            refine lv_iinc (v := x_72) (lv' := [(9, .int x_72), (10, .long z_68), (8, .ref r_25), (0, .ref a0), (1, .ref a1), (2, .ref a2), (3, .ref a3), (4, .ref a4), (5, .int 3), (6, .long a6)]) hx hb dX5_tryBlock_120 hl (k := 1) rfl e_73.symm (by decide) rfl (fun ls hl => ?_)
            refine lv_goto (tgt := 23) hx hb dX5_tryBlock_123 (by decide) ?_
            exfalso; omega
          · skip
            have c_71 : z_68.toInt ≠ (-1) := q_cmp_ne c_71
            refine lv_aload_n hx hb dX5_tryBlock_70 rfl (lv_at hl 3 rfl) ?_
            refine va_get (D := D) (ci := 4) (v := .int v_35) (C := RX5) (T := TX5) (N := 10) hx hb hts in5 hown hK (va_one at_45) 0 rfl rfl 3 (by decide) (hts (.fieldLink RX5 24 "RiverModel$Search" "isFound" "Z") (List.mem_of_getElem? (i := 14) rfl)) (fun _ h9 => h9) rfl dX5_tryBlock_71 ?_
            refine lv_if_eq (tgt := 90) hx hb dX5_tryBlock_74 (by decide) (fun c_74 => ?_) (fun c_74 => ?_)
            · skip
              have c_74 : v_35.toInt = 0 := q_eq c_74
              refine lv_iload hx hb dX5_tryBlock_90 (lv_at hl 8 rfl) ?_
              refine lv_iconst (v := 3) hx hb dX5_tryBlock_92 (by decide) ?_
              refine lv_icmp_ne (tgt := 105) hx hb dX5_tryBlock_93 (by decide) (fun q => absurd rfl q) (fun _ => ?_)
              refine lv_pc (pc2 := 96) rfl ?_
              refine lv_aload_n hx hb dX5_tryBlock_96 rfl (lv_at hl 3 rfl) ?_
              refine lv_lload hx hb dX5_tryBlock_97 (lv_at hl 0 rfl) ?_
              refine ty_callv ((W.runV (As := [.long z_68]) (rest := []) ⟨hx, hb, hml, hown, hts⟩ (s_X5_takeTried l D t cI cL cC gC gE (g + 6) gW gA a0 z_68 k_a0) (cwV 1 hts gu_X5_tryBlock_3_X5_takeTried_63 rfl rfl rfl (by decide +kernel) ⟨Nat.le_of_ble_eq_true rfl, Nat.le_of_ble_eq_true rfl⟩) (tP_V hG hE at_45 rfl) rfl rfl hl.1 rfl (lv_room (Nat.le_of_ble_eq_true rfl)) dX5_tryBlock_99 ⟨Nat.le_of_ble_eq_true rfl, Nat.le_of_ble_eq_true rfl⟩)) hS (fun _ h => h) (fun H locs hp_76 hG hS o_77 => ?_)
              refine lv_goto (tgt := 120) hx hb dX5_tryBlock_102 (by decide) ?_
              obtain ⟨x_78, e_79⟩ : ∃ y : Int32, y = yo + Int32.ofInt 2 := ⟨_, rfl⟩
              have i_x_78 : x_78.toInt = yo.toInt + 2 := by rw [e_79, show Int32.ofInt 2 = 2 by decide]; exact (q_add (by rw [show (2 : Int32).toInt = 2 by decide]; omega) (by rw [show (2 : Int32).toInt = 2 by decide]; omega)).trans (by rw [show (2 : Int32).toInt = 2 by decide])
              refine lv_iinc (v := x_78) (lv' := [(9, .int x_78), (10, .long z_68), (8, .ref r_25), (0, .ref a0), (1, .ref a1), (2, .ref a2), (3, .ref a3), (4, .ref a4), (5, .int 3), (6, .long a6)]) hx hb dX5_tryBlock_120 hl (k := 1) rfl e_79.symm (by decide) rfl (fun ls hl => ?_)
              refine lv_goto (tgt := 23) hx hb dX5_tryBlock_123 (by decide) ?_
              exfalso; omega
            · skip
              have c_74 : v_35.toInt ≠ 0 := q_ne c_74
              refine lv_lload hx hb dX5_tryBlock_77 (lv_at hl 0 rfl) ?_
              refine lv_aload_n hx hb dX5_tryBlock_79 rfl (lv_at hl 3 rfl) ?_
              refine lv_pc (pc2 := 80) rfl ?_
              refine va_get (D := D) (ci := 4) (v := .long v_36) (C := RX5) (T := TX5) (N := 10) hx hb hts in5 hown hK (va_one at_45) 0 rfl rfl 4 (by decide) (hts (.fieldLink RX5 28 "RiverModel$Search" "leastPeak" "J") (List.mem_of_getElem? (i := 18) rfl)) (fun _ h9 => h9) rfl dX5_tryBlock_80 ?_
              refine W.lcmp hx hb dX5_tryBlock_83 ?_
              refine lv_if_lt (tgt := 90) hx hb dX5_tryBlock_84 (by decide) (fun c_80 => ?_) (fun c_80 => ?_)
              · skip
                have c_80 : z_68.toInt < v_36.toInt := q_cmp_lt c_80
                refine lv_iload hx hb dX5_tryBlock_90 (lv_at hl 8 rfl) ?_
                refine lv_iconst (v := 3) hx hb dX5_tryBlock_92 (by decide) ?_
                refine lv_icmp_ne (tgt := 105) hx hb dX5_tryBlock_93 (by decide) (fun q => absurd rfl q) (fun _ => ?_)
                refine lv_aload_n hx hb dX5_tryBlock_96 rfl (lv_at hl 3 rfl) ?_
                refine lv_lload hx hb dX5_tryBlock_97 (lv_at hl 0 rfl) ?_
                refine lv_pc (pc2 := 99) rfl ?_
                refine ty_callv ((W.runV (As := [.long z_68]) (rest := []) ⟨hx, hb, hml, hown, hts⟩ (s_X5_takeTried l D t cI cL cC gC gE (g + 6) gW gA a0 z_68 k_a0) (cwV 1 hts gu_X5_tryBlock_3_X5_takeTried_63 rfl rfl rfl (by decide +kernel) ⟨Nat.le_of_ble_eq_true rfl, Nat.le_of_ble_eq_true rfl⟩) (tP_V hG hE at_45 rfl) rfl rfl hl.1 rfl (lv_room (Nat.le_of_ble_eq_true rfl)) dX5_tryBlock_99 ⟨Nat.le_of_ble_eq_true rfl, Nat.le_of_ble_eq_true rfl⟩)) hS (fun _ h => h) (fun H locs hp_82 hG hS o_83 => ?_)
                refine lv_goto (tgt := 120) hx hb dX5_tryBlock_102 (by decide) ?_
                obtain ⟨x_84, e_85⟩ : ∃ y : Int32, y = yo + Int32.ofInt 2 := ⟨_, rfl⟩
                have i_x_84 : x_84.toInt = yo.toInt + 2 := by rw [e_85, show Int32.ofInt 2 = 2 by decide]; exact (q_add (by rw [show (2 : Int32).toInt = 2 by decide]; omega) (by rw [show (2 : Int32).toInt = 2 by decide]; omega)).trans (by rw [show (2 : Int32).toInt = 2 by decide])
                refine lv_iinc (v := x_84) (lv' := [(9, .int x_84), (10, .long z_68), (8, .ref r_25), (0, .ref a0), (1, .ref a1), (2, .ref a2), (3, .ref a3), (4, .ref a4), (5, .int 3), (6, .long a6)]) hx hb dX5_tryBlock_120 hl (k := 1) rfl e_85.symm (by decide) rfl (fun ls hl => ?_)
                refine lv_goto (tgt := 23) hx hb dX5_tryBlock_123 (by decide) ?_
                exfalso; omega
              · skip
                have c_80 : v_36.toInt ≤ z_68.toInt := q_cmp_nlt c_80
                refine lv_goto (tgt := 120) hx hb dX5_tryBlock_87 (by decide) ?_
                obtain ⟨x_86, e_87⟩ : ∃ y : Int32, y = yo + Int32.ofInt 2 := ⟨_, rfl⟩
                have i_x_86 : x_86.toInt = yo.toInt + 2 := by rw [e_87, show Int32.ofInt 2 = 2 by decide]; exact (q_add (by rw [show (2 : Int32).toInt = 2 by decide]; omega) (by rw [show (2 : Int32).toInt = 2 by decide]; omega)).trans (by rw [show (2 : Int32).toInt = 2 by decide])
                refine lv_iinc (v := x_86) (lv' := [(9, .int x_86), (10, .long z_68), (8, .ref r_25), (0, .ref a0), (1, .ref a1), (2, .ref a2), (3, .ref a3), (4, .ref a4), (5, .int 3), (6, .long a6)]) hx hb dX5_tryBlock_120 hl (k := 1) rfl e_87.symm (by decide) rfl (fun ls hl => ?_)
                refine lv_goto (tgt := 23) hx hb dX5_tryBlock_123 (by decide) ?_
                exfalso; omega
      | succ k ih =>
        intro yo g H locs ls hk v0 v1 v2 hG hS hl
        refine (hWW _ _ _).mpr ?_
        refine lv_iload hx hb dX5_tryBlock_23 (lv_at hl 0 rfl) ?_
        refine lv_pc (pc2 := 25) rfl ?_
        refine lv_bipush (v := 10) hx hb dX5_tryBlock_25 (by decide) ?_
        refine lv_icmp_gt (tgt := 126) hx hb dX5_tryBlock_27 (by decide) (fun c_88 => ?_) (fun c_88 => ?_)
        · skip
          have c_88 : 10 < yo.toInt := q_lt c_88
          exact (hWW _ _ _).mp (kx yo g H locs ls (by omega) (by omega) (by omega) hG hS (lv_sub hl [0, 1, 2, 3, 4, 5, 6, 7, 8] rfl))
        · skip
          have c_88 : yo.toInt ≤ 10 := q_nlt c_88
          refine lv_aload_n hx hb dX5_tryBlock_30 rfl (lv_at hl 2 rfl) ?_
          obtain ⟨r_89, r_91, r_93, v_95, v_96, v_97, v_99, v_101, v_102, v_104, at_105, h_90, h_92, h_94, h_98, h_100, h_103⟩ := gF_o9 hG k_a0
          refine va_get (D := D) (ci := 4) (v := .ref r_91) (C := RX5) (T := TX5) (N := 10) hx hb hts in5 hown hK (va_one at_105) 0 rfl rfl 1 (by decide) (hts (.fieldLink RX5 17 "RiverModel$Search" "tried" "[I") (List.mem_of_getElem? (i := 4) rfl)) (fun _ h9 => h9) rfl dX5_tryBlock_31 ?_
          refine lv_iload hx hb dX5_tryBlock_34 (lv_at hl 7 rfl) ?_
          refine lv_iload hx hb dX5_tryBlock_36 (lv_at hl 0 rfl) ?_
          obtain ⟨f_106, at_107⟩ := gF_o33 hG h_92
          have b_108 : vp_in 3 4 := (q_in (by decide) (by decide))
          refine ty_iast (F2 := (gF cI cL cC gC gE g gW gA)) hx hb hK hG hS 0 at_107 (by rw [h_92]; rfl) rfl b_108 (by rw [h_92]; exact ⟨_, rfl⟩) tFF dX5_tryBlock_38 (fun H locs hG hS at_109 o_110 => ?_)
          have at_105 := va_at.keptK at_105 o_110 h_92 k_a0 rfl
          refine lv_aload hx hb dX5_tryBlock_39 (lv_at hl 1 rfl) ?_
          refine lv_pc (pc2 := 41) rfl ?_
          refine lv_aload hx hb dX5_tryBlock_41 (lv_at hl 6 rfl) ?_
          obtain ⟨r_111, r_113, r_115, r_117, v_119, v_120, v_121, v_122, at_124, h_112, h_114, h_116, h_118, h_123⟩ := gF_o5 hG h_27
          refine ty_callv ((W.runV (As := [.ref a4]) (rest := []) ⟨hx, hb, hml, hown, hts⟩ (s_X0_copyFrom l D t cI cL cC gC gE g gW gA r_25 a4 h_27 k_a4) (cwV 1 hts gu_X5_tryBlock_3_X0_copyFrom_53 rfl rfl rfl (by decide +kernel) ⟨Nat.le_of_ble_eq_true rfl, Nat.le_of_ble_eq_true rfl⟩) (tP_V hG hE at_124 rfl) rfl rfl hl.1 rfl (lv_room (Nat.le_of_ble_eq_true rfl)) dX5_tryBlock_43 ⟨Nat.le_of_ble_eq_true rfl, Nat.le_of_ble_eq_true rfl⟩)) hS (wrL_sub (by decide)) (fun H locs hp_126 hG hS o_127 => ?_)
          have at_105 := va_at.keptC at_105 o_127 k_a0 rfl
          refine lv_aload_n hx hb dX5_tryBlock_46 rfl (lv_at hl 2 rfl) ?_
          refine lv_aload_n hx hb dX5_tryBlock_47 rfl (lv_at hl 3 rfl) ?_
          refine lv_aload_n hx hb dX5_tryBlock_48 rfl (lv_at hl 4 rfl) ?_
          refine lv_aload_n hx hb dX5_tryBlock_49 rfl (lv_at hl 5 rfl) ?_
          refine lv_aload hx hb dX5_tryBlock_50 (lv_at hl 1 rfl) ?_
          refine lv_iload hx hb dX5_tryBlock_52 (lv_at hl 0 rfl) ?_
          refine lv_pc (pc2 := 54) rfl ?_
          refine lv_lload hx hb dX5_tryBlock_54 (lv_at hl 8 rfl) ?_
          refine ty_calll ((W.runV (As := [.ref a1, .ref a2, .ref a3, .ref r_25, .int yo, .long a6]) (rest := []) ⟨hx, hb, hml, hown, hts⟩ (s_X5_peakOfBlock l D t cI cL cC gC gE g gW gA a0 a1 a2 a3 r_25 yo a6 (by omega) k_a0 k_a1 k_a2 k_a3 h_27) (cwV 6 hts gu_X5_tryBlock_3_X5_peakOfBlock_57 rfl rfl rfl (by decide +kernel) ⟨Nat.le_of_ble_eq_true rfl, Nat.le_of_ble_eq_true rfl⟩) (tP_V hG hE at_105 rfl) rfl rfl hl.1 rfl (lv_room (Nat.le_of_ble_eq_true rfl)) dX5_tryBlock_56 ⟨Nat.le_of_ble_eq_true rfl, Nat.le_of_ble_eq_true rfl⟩)) hS (wrL_sub (by decide)) (fun z_128 H locs hp_129 hG hS o_130 => ?_)
          have at_105 := va_at.keptC at_105 o_130 k_a0 rfl
          refine lv_lstore (lv' := [(10, .long z_128), (9, .int yo), (8, .ref r_25), (0, .ref a0), (1, .ref a1), (2, .ref a2), (3, .ref a3), (4, .ref a4), (5, .int 3), (6, .long a6)]) hx hb dX5_tryBlock_59 hl (by decide) rfl (fun ls hl => ?_)
          refine lv_lload hx hb dX5_tryBlock_61 (lv_at hl 0 rfl) ?_
          refine lv_ldc2 hx hb hown (hts (.constantLong RX5 61 (-1)) (List.mem_of_getElem? (i := 13) rfl)) dX5_tryBlock_63 ?_
          refine W.lcmp hx hb dX5_tryBlock_66 ?_
          refine lv_if_eq (tgt := 120) hx hb dX5_tryBlock_67 (by decide) (fun c_131 => ?_) (fun c_131 => ?_)
          · skip
            have c_131 : z_128.toInt = (-1) := q_cmp_eq c_131
            obtain ⟨x_132, e_133⟩ : ∃ y : Int32, y = yo + Int32.ofInt 2 := ⟨_, rfl⟩
            have i_x_132 : x_132.toInt = yo.toInt + 2 := by rw [e_133, show Int32.ofInt 2 = 2 by decide]; exact (q_add (by rw [show (2 : Int32).toInt = 2 by decide]; omega) (by rw [show (2 : Int32).toInt = 2 by decide]; omega)).trans (by rw [show (2 : Int32).toInt = 2 by decide])
            refine lv_iinc (v := x_132) (lv' := [(9, .int x_132), (10, .long z_128), (8, .ref r_25), (0, .ref a0), (1, .ref a1), (2, .ref a2), (3, .ref a3), (4, .ref a4), (5, .int 3), (6, .long a6)]) hx hb dX5_tryBlock_120 hl (k := 1) rfl e_133.symm (by decide) rfl (fun ls hl => ?_)
            refine lv_pc (pc2 := 123) rfl ?_
            refine lv_goto (tgt := 23) hx hb dX5_tryBlock_123 (by decide) ?_
            exact (hWW _ _ _).mp (ih x_132 (g + 6) H locs ls (by omega) (by omega) (by omega) (by omega) hG hS (lv_sub hl [0, 2, 3, 4, 5, 6, 7, 8, 9] rfl))
          · skip
            have c_131 : z_128.toInt ≠ (-1) := q_cmp_ne c_131
            refine lv_aload_n hx hb dX5_tryBlock_70 rfl (lv_at hl 3 rfl) ?_
            refine va_get (D := D) (ci := 4) (v := .int v_95) (C := RX5) (T := TX5) (N := 10) hx hb hts in5 hown hK (va_one at_105) 0 rfl rfl 3 (by decide) (hts (.fieldLink RX5 24 "RiverModel$Search" "isFound" "Z") (List.mem_of_getElem? (i := 14) rfl)) (fun _ h9 => h9) rfl dX5_tryBlock_71 ?_
            refine lv_if_eq (tgt := 90) hx hb dX5_tryBlock_74 (by decide) (fun c_134 => ?_) (fun c_134 => ?_)
            · skip
              have c_134 : v_95.toInt = 0 := q_eq c_134
              refine lv_iload hx hb dX5_tryBlock_90 (lv_at hl 8 rfl) ?_
              refine lv_iconst (v := 3) hx hb dX5_tryBlock_92 (by decide) ?_
              refine lv_icmp_ne (tgt := 105) hx hb dX5_tryBlock_93 (by decide) (fun q => absurd rfl q) (fun _ => ?_)
              refine lv_aload_n hx hb dX5_tryBlock_96 rfl (lv_at hl 3 rfl) ?_
              refine lv_pc (pc2 := 97) rfl ?_
              refine lv_lload hx hb dX5_tryBlock_97 (lv_at hl 0 rfl) ?_
              refine ty_callv ((W.runV (As := [.long z_128]) (rest := []) ⟨hx, hb, hml, hown, hts⟩ (s_X5_takeTried l D t cI cL cC gC gE (g + 6) gW gA a0 z_128 k_a0) (cwV 1 hts gu_X5_tryBlock_3_X5_takeTried_63 rfl rfl rfl (by decide +kernel) ⟨Nat.le_of_ble_eq_true rfl, Nat.le_of_ble_eq_true rfl⟩) (tP_V hG hE at_105 rfl) rfl rfl hl.1 rfl (lv_room (Nat.le_of_ble_eq_true rfl)) dX5_tryBlock_99 ⟨Nat.le_of_ble_eq_true rfl, Nat.le_of_ble_eq_true rfl⟩)) hS (fun _ h => h) (fun H locs hp_136 hG hS o_137 => ?_)
              refine lv_goto (tgt := 120) hx hb dX5_tryBlock_102 (by decide) ?_
              obtain ⟨x_138, e_139⟩ : ∃ y : Int32, y = yo + Int32.ofInt 2 := ⟨_, rfl⟩
              have i_x_138 : x_138.toInt = yo.toInt + 2 := by rw [e_139, show Int32.ofInt 2 = 2 by decide]; exact (q_add (by rw [show (2 : Int32).toInt = 2 by decide]; omega) (by rw [show (2 : Int32).toInt = 2 by decide]; omega)).trans (by rw [show (2 : Int32).toInt = 2 by decide])
              refine lv_iinc (v := x_138) (lv' := [(9, .int x_138), (10, .long z_128), (8, .ref r_25), (0, .ref a0), (1, .ref a1), (2, .ref a2), (3, .ref a3), (4, .ref a4), (5, .int 3), (6, .long a6)]) hx hb dX5_tryBlock_120 hl (k := 1) rfl e_139.symm (by decide) rfl (fun ls hl => ?_)
              refine lv_goto (tgt := 23) hx hb dX5_tryBlock_123 (by decide) ?_
              exact (hWW _ _ _).mp (ih x_138 (g + 6) H locs ls (by omega) (by omega) (by omega) (by omega) hG hS (lv_sub hl [0, 2, 3, 4, 5, 6, 7, 8, 9] rfl))
            · skip
              have c_134 : v_95.toInt ≠ 0 := q_ne c_134
              refine lv_lload hx hb dX5_tryBlock_77 (lv_at hl 0 rfl) ?_
              refine lv_aload_n hx hb dX5_tryBlock_79 rfl (lv_at hl 3 rfl) ?_
              refine va_get (D := D) (ci := 4) (v := .long v_96) (C := RX5) (T := TX5) (N := 10) hx hb hts in5 hown hK (va_one at_105) 0 rfl rfl 4 (by decide) (hts (.fieldLink RX5 28 "RiverModel$Search" "leastPeak" "J") (List.mem_of_getElem? (i := 18) rfl)) (fun _ h9 => h9) rfl dX5_tryBlock_80 ?_
              refine lv_pc (pc2 := 83) rfl ?_
              refine W.lcmp hx hb dX5_tryBlock_83 ?_
              refine lv_if_lt (tgt := 90) hx hb dX5_tryBlock_84 (by decide) (fun c_140 => ?_) (fun c_140 => ?_)
              · skip
                have c_140 : z_128.toInt < v_96.toInt := q_cmp_lt c_140
                refine lv_iload hx hb dX5_tryBlock_90 (lv_at hl 8 rfl) ?_
                refine lv_iconst (v := 3) hx hb dX5_tryBlock_92 (by decide) ?_
                refine lv_icmp_ne (tgt := 105) hx hb dX5_tryBlock_93 (by decide) (fun q => absurd rfl q) (fun _ => ?_)
                refine lv_aload_n hx hb dX5_tryBlock_96 rfl (lv_at hl 3 rfl) ?_
                refine lv_lload hx hb dX5_tryBlock_97 (lv_at hl 0 rfl) ?_
                refine ty_callv ((W.runV (As := [.long z_128]) (rest := []) ⟨hx, hb, hml, hown, hts⟩ (s_X5_takeTried l D t cI cL cC gC gE (g + 6) gW gA a0 z_128 k_a0) (cwV 1 hts gu_X5_tryBlock_3_X5_takeTried_63 rfl rfl rfl (by decide +kernel) ⟨Nat.le_of_ble_eq_true rfl, Nat.le_of_ble_eq_true rfl⟩) (tP_V hG hE at_105 rfl) rfl rfl hl.1 rfl (lv_room (Nat.le_of_ble_eq_true rfl)) dX5_tryBlock_99 ⟨Nat.le_of_ble_eq_true rfl, Nat.le_of_ble_eq_true rfl⟩)) hS (fun _ h => h) (fun H locs hp_142 hG hS o_143 => ?_)
                refine lv_pc (pc2 := 102) rfl ?_
                refine lv_goto (tgt := 120) hx hb dX5_tryBlock_102 (by decide) ?_
                obtain ⟨x_144, e_145⟩ : ∃ y : Int32, y = yo + Int32.ofInt 2 := ⟨_, rfl⟩
                have i_x_144 : x_144.toInt = yo.toInt + 2 := by rw [e_145, show Int32.ofInt 2 = 2 by decide]; exact (q_add (by rw [show (2 : Int32).toInt = 2 by decide]; omega) (by rw [show (2 : Int32).toInt = 2 by decide]; omega)).trans (by rw [show (2 : Int32).toInt = 2 by decide])
                refine lv_iinc (v := x_144) (lv' := [(9, .int x_144), (10, .long z_128), (8, .ref r_25), (0, .ref a0), (1, .ref a1), (2, .ref a2), (3, .ref a3), (4, .ref a4), (5, .int 3), (6, .long a6)]) hx hb dX5_tryBlock_120 hl (k := 1) rfl e_145.symm (by decide) rfl (fun ls hl => ?_)
                refine lv_goto (tgt := 23) hx hb dX5_tryBlock_123 (by decide) ?_
                exact (hWW _ _ _).mp (ih x_144 (g + 6) H locs ls (by omega) (by omega) (by omega) (by omega) hG hS (lv_sub hl [0, 2, 3, 4, 5, 6, 7, 8, 9] rfl))
              · skip
                have c_140 : v_96.toInt ≤ z_128.toInt := q_cmp_nlt c_140
                refine lv_goto (tgt := 120) hx hb dX5_tryBlock_87 (by decide) ?_
                obtain ⟨x_146, e_147⟩ : ∃ y : Int32, y = yo + Int32.ofInt 2 := ⟨_, rfl⟩
                have i_x_146 : x_146.toInt = yo.toInt + 2 := by rw [e_147, show Int32.ofInt 2 = 2 by decide]; exact (q_add (by rw [show (2 : Int32).toInt = 2 by decide]; omega) (by rw [show (2 : Int32).toInt = 2 by decide]; omega)).trans (by rw [show (2 : Int32).toInt = 2 by decide])
                refine lv_iinc (v := x_146) (lv' := [(9, .int x_146), (10, .long z_128), (8, .ref r_25), (0, .ref a0), (1, .ref a1), (2, .ref a2), (3, .ref a3), (4, .ref a4), (5, .int 3), (6, .long a6)]) hx hb dX5_tryBlock_120 hl (k := 1) rfl e_147.symm (by decide) rfl (fun ls hl => ?_)
                refine lv_goto (tgt := 23) hx hb dX5_tryBlock_123 (by decide) ?_
                exact (hWW _ _ _).mp (ih x_146 (g + 6) H locs ls (by omega) (by omega) (by omega) (by omega) hG hS (lv_sub hl [0, 2, 3, 4, 5, 6, 7, 8, 9] rfl))
    have hz_yo : (0 : Int32).toInt = 0 := by decide
    exact loop (12 - 0 : Int).toNat 0 G H locs ls (by omega) (by omega) (by omega) (by omega) hG hS (lv_sub hl [0, 1, 2, 3, 4, 5, 6, 7, 8] rfl)
